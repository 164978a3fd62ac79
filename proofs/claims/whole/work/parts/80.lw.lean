-- methods with a table of handlers
def zwW (y : MethodName) (b : ByteArray) (n : Nat) (r : Option FieldType) (hh : List (Nat × Nat × Nat × Nat)) : List Cond := Cond.codeWith y b n r hh :: zT
theorem zwW_of {y : MethodName} {b : ByteArray} {n : Nat} {r : Option FieldType} {hh : List (Nat × Nat × Nat × Nat)} (h : Cond.codeWith y b n r hh ∈ zT) : GoodIn zT (zwW y b n r hh) := fun w hw => by
  rcases List.mem_cons.mp hw with rfl | hw
  · exact ⟨h, zT_good h⟩
  · exact ⟨hw, zT_good hw⟩
theorem zg_SW {own : String} {i n : Nat} {y : MethodName} {b : ByteArray} {r : Option FieldType} {hh : List (Nat × Nat × Nat × Nat)} (h1 : Cond.methodLink own i y ∈ zT) (h2 : Cond.static y ∈ zT) (h4 : Cond.initialized y.cls ∈ zT) (h5 : Cond.codeWith y b n r hh ∈ zT) : GoodIn zT (va_wsS own i y (zwW y b n r hh)) := by
  intro w hw
  rcases List.mem_append.mp hw with hw | hw
  · simp only [List.mem_cons, List.not_mem_nil, or_false] at hw
    rcases hw with rfl | rfl | rfl
    · exact ⟨h1, zT_good h1⟩
    · exact ⟨h2, zT_good h2⟩
    · exact ⟨h4, zT_good h4⟩
  · exact zwW_of h5 w hw
theorem zOfW {l : Launch} {y : MethodName} {b : ByteArray} {n : Nat} {r : Option FieldType} {hh : List (Nat × Nat × Nat × Nat)} {own : String} {rm : Room} {D : va_G} {tys : List (ClassId × FieldType)} {k : Nat → Nat} {av : List Value} {w : va_W} {sz : Nat} {Qc : Array Value → State → Outcome → State → Prop} {mc ms : Nat} {free : Addr → Prop}
    (hpl : plainName y.cls = true) (ho : y.cls = own) (hn : (lg_sl av).length ≤ n)
    (body : ∀ (p : Program) (e : Env) (s : State) (m : MethodId) (below : List Frame) (meth : Method) (c : Code) (A : Nat → Prop) (ls : Array Slot), zCx p s m av.toArray meth c b n own D tys k A → meth.sig.returnType = r → c.exceptionTable.toList = tableOf hh → A = va_A w sz → s.heap.size = sz →
      lv_has ls n (lv_args 0 av) → va_P D vCl w s.heap → va_D A w → va_S A s.heap s.heap [] → W p l e rm s m av.toArray below meth c s.heap [] 0 0 (MQ below Qc av.toArray s mc ms free) (F0 m 0 ls [])) :
    Met l y (zwW y b n r hh) rm (va_Pc av (zPre D tys k w sz)) Qc mc ms free := by
  refine va_MetW (cc := b) (maxL := n) (ret := r) (hh := hh) hpl rfl ?_
  intro p e s m args below meth c s₁ B hml hv
  obtain ⟨rfl, hsz, hP, hK, hD0, hX⟩ := hv
  have hts := atoms_spec (ws := zwW y b n r hh) B.pre
  have hown : s.vm.findClass own = some m.cls := by rw [← ho]; exact findClass_of_methodNamed B.named
  have hex := vx_table (x := y) B (hts _ List.mem_cons_self)
  rw [lg_entry_eq]
  exact body p e s m below meth c (va_A w sz) _ ⟨B.exec, B.bytes, hml, hown, fun w hw => hts w (List.mem_cons_of_mem _ hw), hK, hX, fun q hq => Or.inr (by omega), B.notSynchronized⟩ B.returns hex rfl hsz (lv_entry av hn) hP (hD0.self) va_S.rf
section ZLW
variable {p : Program} {l : Launch} {e : Env} {R : Room} {s : State} {m : MethodId} {args : Array Value} {below : List Frame} {meth : Method} {c : Code} {H : Heap} {locs : List Loc} {cells slots : Nat} {Q : State → Prop} {cc : ByteArray} {pc nL : Nat} {ls : Array Slot} {rest st0 : List Value} {own : String} {D : va_G} {tys : List (ClassId × FieldType)} {k : Nat → Nat} {A : Nat → Prop} {w w1 wc wr : va_W} {sz : Nat}
theorem zrunX {y : MethodName} {b : ByteArray} {n na i mc ms : Nat} {r : Option FieldType} {rm : Room} {C : String} {a : Nat} {As : List Value} {Qc : Array Value → State → Outcome → State → Prop} {XC : String → State → State → Prop} {free : Addr → Prop} {T : u_T} {N ci : Nat} {fs : List Value}
    (C0 : zCx p s m args meth c cc nL own D tys k A) (hP : va_P D vCl w H) (hD : va_D A w) (hS : va_S A s.heap H locs) (isC : List Nat) (hC : isC.map (fun i => w[i]?) = wc.map some) (hn : va_nd isC = true)
    (hM : vx_Met l y (zw y b n r) rm (va_Pc (.ref a :: As) (zPre D tys k wc H.size)) Qc XC mc ms free) (hg : GoodIn zT (wsV own i C y (zw y b n r)))
    (hd : y.cls = C ∧ y.cls ≠ "java/lang/invoke/MethodHandle" ∧ y.cls ≠ "java/lang/invoke/VarHandle" ∧ (parseMethodDescriptor y.desc).map (fun d => d.parameters.length) = some na) (hrc : rm.cells = mc) (hrs : rm.slots = ms) (hR : rm.frames + 1 ≤ R.frames ∧ 8 + (n + 11) + rm.locals ≤ R.locals)
    (q0 : Nat) (he : w[q0]? = some (a, .inr (ci, fs))) (hc : vCl[ci]? = some (C, T, N)) (hla : As.length = na) (hsz : ls.size = nL) (hst : st0 = As.reverse ++ .ref a :: rest) (hrw : (rest.map fun v => v.category).sum ≤ 8) (hdg : decode cc pc = .ok (.invokevirtual i, 3)) (hroom : cells + mc ≤ R.cells ∧ slots + ms ≤ R.slots) :
    vx_Run p l e R s m args below meth c H locs cells slots mc ms (F0 m pc ls st0) rest (Qc (Value.ref a :: As).toArray) XC free := by
  have hz := zarg C0 hP hD hS isC hC hn (av := .ref a :: As)
  obtain ⟨hx, hb, hml, hown, ht, hK, hX, hA, -⟩ := C0
  exact vx_runV (As := As) (rest := rest) ⟨hx, hb, hml, hown, ht⟩ hM (cwV na ht hg rfl hrc hrs hd hR) ⟨zPre.blind, va_recv hK hP hc he, hz⟩ rfl hla hsz hst (lv_room hrw) hdg hroom
theorem zgoX {post : Int32 → va_W → Prop} {px : va_W → Prop} {a : Array Value} {mc ms : Nat} (C0 : zCx p s m args meth c cc nL own D tys k A) (hr : vx_Run p l e R s m args below meth c H locs cells slots mc ms (F0 m pc ls st0) rest (va_Qi post (zB D tys wc H.size) (va_A wc H.size) a) (vx_X px (zBX D tys wc H.size) (va_A wc H.size)) (va_A wc H.size))
    (hP : va_P D vCl w H) (hD : va_D A w) (hS : va_S A s.heap H locs) (isC isR : List Nat) (hC : isC.map (fun i => w[i]?) = wc.map some) (hR : isR.map (fun i => w[i]?) = wr.map some) (hn : va_nd isR = true) (hdis : ∀ i ∈ isR, i ∉ isC)
    (kx : ∀ (w1 : va_W) (H1 : Heap) (locs1 : List Loc) (q9 : Addr) (ce : Cell), px w1 → va_P D vCl (wr ++ w1) H1 → va_D A (wr ++ w1) → va_S A s.heap H1 locs1 → H1[q9]? = some ce → ce.vm = .none → s.vm.findClass "java/lang/IllegalArgumentException" = some ce.cls → vx_W p l e R s m args below meth c H1 locs1 (cells + mc) (slots + ms) Q (F0 m pc ls rest) q9)
    (kk : ∀ (r : Int32) (w1 : va_W) (H1 : Heap) (locs1 : List Loc), post r w1 → va_P D vCl (wr ++ w1) H1 → va_D A (wr ++ w1) → va_S A s.heap H1 locs1 → W p l e R s m args below meth c H1 locs1 (cells + mc) (slots + ms) Q (F0 m (pc + 3) ls (.int r :: rest))) :
    W p l e R s m args below meth c H locs cells slots Q (F0 m pc ls st0) := by
  obtain ⟨-, -, -, -, -, hK, hX, hA, -⟩ := C0
  have hFc := va_free (wc := wc) hD hS hA isC hC
  refine vx_calli hr hS (fun q _ h => hFc q h) hFc (fun q _ h => hFc q h) (fun E ce q9 u t H1 locs1 ht hvm hpx hB hz1 hk1 hS1 h9 hv9 hf9 => ?_) (fun r u t H1 locs1 ht hvm hw hB hz1 hk1 hS1 => ?_)
  · obtain ⟨rfl, hP1, hK1, hD1⟩ := hB
    rw [ht] at hP1
    obtain ⟨hP2, hD2⟩ := va_join (wr := wr) (w1 := u) hP hD isC isR hC hR hn hdis hk1 hFc hP1 hD1
    exact kx u H1 locs1 q9 ce hpx hP2 hD2 hS1 h9 hv9 hf9
  · obtain ⟨hP1, hK1, hD1⟩ := hB
    rw [ht] at hP1
    obtain ⟨hP2, hD2⟩ := va_join (wr := wr) (w1 := u) hP hD isC isR hC hR hn hdis hk1 hFc hP1 hD1
    exact kk r u H1 locs1 hw hP2 hD2 hS1
theorem zcatch {q9 : Addr} {ce : Cell} {a z h : Nat} (C0 : zCx p s m args meth c cc nL "DigitChipLaw" D tys k A) (hex : c.exceptionTable.toList = tableOf [(a, z, h, 13)]) (hcov : a ≤ pc ∧ pc < z) (h9 : H[q9]? = some ce) (hv9 : ce.vm = .none) (hf9 : s.vm.findClass "java/lang/IllegalArgumentException" = some ce.cls)
    (kk : W p l e R s m args below meth c H locs cells slots Q (F0 m h ls [.ref q9])) : vx_W p l e R s m args below meth c H locs cells slots Q (F0 m pc ls rest) q9 := by
  obtain ⟨hx, hb, hml, hown, ht, hK, hX, hA, -⟩ := C0
  refine vx_catch (E := "java/lang/IllegalArgumentException") (name := "java/lang/IllegalArgumentException") hown [] ⟨a, z, h, 13⟩ [] hex (fun z hz => absurd hz List.not_mem_nil) ?_ (show (13 : Nat) ≠ 0 by decide) (ht _ q235) (va_Nw.use rfl (hX.2.2.2.2.2.2.2.2 _ (List.mem_of_getElem? (i := 3) rfl))) h9 hv9 hf9 kk
  simp [covers, hcov.1, hcov.2]
end ZLW
abbrev wO (ad : Nat → Nat) (ca : Nat → ClassId) (o : Nat → Nat) : va_W := [(ad 21, .inl (ca 1, 1, .inr (.inl (lF o))))]
theorem rnS_le : ∀ (n : Nat) (S : PS), (rnS n S).1 ≤ n
  | 0, S => by rw [rn_0]; exact Nat.le_refl _
  | n + 1, S => by
    by_cases h : S.2.2.2.2.2.2.2.2.2.2.1 = 0
    · rw [rn_s h]
      have := rnS_le n (dwS (S.1 S.2.2.2.2.2.2.2.2.1) S)
      dsimp only
      omega
    · rw [rn_e h]
      omega
theorem rOk_le {x : Int32} (h : rOk x) : x.toNatClampNeg ≤ 400 := by
  obtain ⟨h0, h1⟩ := h
  obtain ⟨j, hj, rfl⟩ := nI_of h0
  rw [nI_clamp (by omega)]
  exact (nI_leI (by omega) (by decide)).mp h1

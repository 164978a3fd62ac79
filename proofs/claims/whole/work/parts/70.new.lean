-- objects and rows that are made: constructors
section ZN
variable {p : Program} {l : Launch} {e : Env} {R : Room} {s : State} {m : MethodId} {args : Array Value} {below : List Frame} {meth : Method} {c : Code} {H : Heap} {locs : List Loc} {cells slots : Nat} {Q : State → Prop} {cc : ByteArray} {pc nL : Nat} {ls : Array Slot} {rest st0 : List Value} {own : String} {D : va_G} {tys : List (ClassId × FieldType)} {k : Nat → Nat} {A : Nat → Prop} {w w1 wc wr : va_W} {sz : Nat}
theorem zobj (C0 : zCx p s m args meth c cc nL own D tys k A) {idx a : Nat} (h1 : Cond.methodLink own idx ⟨"java/lang/Object", "<init>", "()V"⟩ ∈ zT) (hsz : ls.size = nL) (hd : decode cc pc = .ok (.invokespecial idx, 3)) (hf : 1 ≤ R.frames) (hR : (rest.map fun v => v.category).sum + 20 ≤ R.locals)
    (kk : W p l e R s m args below meth c H locs cells slots Q (F0 m (pc + 3) ls rest)) : W p l e R s m args below meth c H locs cells slots Q (F0 m pc ls (.ref a :: rest)) := by
  obtain ⟨hx, hb, hml, hown, ht, hK, hX, hA, hl⟩ := C0
  refine W.objInit hx hb hown (ht _ h1) (ht _ q24) (ht _ q25) rfl (by rw [hml]; exact hsz) rfl hd hf ?_ kk
  have e0 : (F0 m pc ls (.ref a :: rest)).monitorRoom = 0 := rfl
  rw [e0]
  omega
theorem znewa (C0 : zCx p s m args meth c cc nL own D tys k A) (hP : va_P D vCl w H) (hD : va_D A w) (hS : va_S A s.heap H locs) {atype : ArrayType} {ty : FieldType} (hty : newarray.typeOf atype = ty) (harr : Cond.arrayClass ty ∈ zT) (kt : Nat) {cA : ClassId} (hkt : tys[kt]? = some (cA, ty))
    (hone : ∀ c1 c2 : ClassId, va_RA s c1 ty → va_RA s c2 ty → c1 = c2) {n : Int32} {N' : Nat} {a0 : vp_A} (ha : ∀ cA : ClassId, vp_cell cA a0 = arrV cA N' (fun _ => defaultValue ty)) (hn : ¬ n < 0) (hN : n.toNatClampNeg = N') (hbytes : N' * componentBytes ty ≤ 536870912) (hcells : cells + 1 ≤ R.cells) (hslots : slots + N' ≤ R.slots) (hdg : decode cc pc = .ok (.newarray atype, 2))
    (kk : ∀ (q : Nat) (H1 : Heap), va_P D vCl (w ++ [(q, .inl (cA, a0))]) H1 → va_D A (w ++ [(q, .inl (cA, a0))]) → va_S A s.heap H1 locs →
      W p l e R s m args below meth c H1 locs (cells + 1) (slots + N') Q (F0 m (pc + 2) ls (.ref q :: rest))) : W p l e R s m args below meth c H locs cells slots Q (F0 m pc ls (.int n :: rest)) := by
  obtain ⟨hx, hb, hml, hown, ht, hK, hX, hA, hl⟩ := C0
  subst hty
  refine va_newa hx hb (ht _ harr) rfl hK hP hD hS hA ha hn hN hbytes hcells hslots hdg (fun q c1 H1 hK1 hP1 hD1 hS1 => ?_)
  have e1 : c1 = cA := hone _ _ (hK1.2 tys.length (c1, newarray.typeOf atype) (by simp)).2 (hK.2 kt _ hkt).2
  subst e1
  exact kk q H1 hP1 hD1 hS1
theorem zgo_n {post : va_W → Prop} {a : Array Value} {mc ms : Nat} (C0 : zCx p s m args meth c cc nL own D tys k A) (hr : va_Run p l e R s m args below meth c H locs cells slots mc ms (F0 m pc ls st0) rest (va_Qv post (zB D tys wc H.size) (va_A wc H.size) a) (va_A wc H.size))
    (hP : va_P D vCl w H) (hD : va_D A w) (hS : va_S A s.heap H locs) (isC isR : List Nat) (hC : isC.map (fun i => w[i]?) = wc.map some) (hR : isR.map (fun i => w[i]?) = wr.map some) (hn : va_nd isR = true) (hdis : ∀ i ∈ isR, i ∉ isC)
    (kk : ∀ (w1 : va_W) (H1 : Heap) (locs1 : List Loc), post w1 → va_P D vCl (wr ++ w1) H1 → va_D A (wr ++ w1) → va_S A s.heap H1 locs1 → W p l e R s m args below meth c H1 locs1 (cells + mc) (slots + ms) Q (F0 m (pc + 3) ls rest)) :
    W p l e R s m args below meth c H locs cells slots Q (F0 m pc ls st0) := by
  obtain ⟨-, -, -, -, -, hK, hX, hA, -⟩ := C0
  have hFc := va_free (wc := wc) hD hS hA isC hC
  refine va_callv hr hS (fun q _ h => hFc q h) hFc (fun u t H1 locs1 ht hvm hw hB hz1 hk1 hS1 => ?_)
  obtain ⟨hP1, hK1, hD1⟩ := hB
  rw [ht] at hP1
  obtain ⟨hP2, hD2⟩ := va_join (wr := wr) (w1 := u) hP hD isC isR hC hR hn hdis hk1 hFc hP1 hD1
  exact kk u H1 locs1 hw hP2 hD2 hS1
-- a nest mate's private constructor
theorem zrunN {y : MethodName} {b : ByteArray} {n i mc ms : Nat} {rm : Room} {host : String} {a : Nat} {Qc : Array Value → State → Outcome → State → Prop} {free : Addr → Prop}
    (C0 : zCx p s m args meth c cc nL own D tys k A) (hP : va_P D vCl w H) (hD : va_D A w) (hS : va_S A s.heap H locs) (isC : List Nat) (hC : isC.map (fun i => w[i]?) = wc.map some) (hn : va_nd isC = true)
    (hM : Met l y (zw y b n none) rm (va_Pc [.ref a] (zPre D tys k wc H.size)) Qc mc ms free) (hcw : Cond.code y b n none ∈ zT) (hlk : Cond.methodLinkNest own i y host ∈ zL) (hini : Cond.initialized y.cls ∈ zT) (hin : Cond.instanceMethod y ∈ zT) (hyn : y.name = "<init>")
    (hd : y.cls ≠ "java/lang/invoke/MethodHandle" ∧ y.cls ≠ "java/lang/invoke/VarHandle" ∧ (parseMethodDescriptor y.desc).map (fun d => d.parameters.length) = some 0) (hrc : rm.cells = mc) (hrs : rm.slots = ms) (hR : rm.frames + 1 ≤ R.frames ∧ 8 + (n + 11) + rm.locals ≤ R.locals)
    (hsz : ls.size = nL) (hst : st0 = .ref a :: rest) (hrw : (rest.map fun v => v.category).sum ≤ 8) (hdg : decode cc pc = .ok (.invokespecial i, 3)) (hroom : cells + mc ≤ R.cells ∧ slots + ms ≤ R.slots) :
    va_Run p l e R s m args below meth c H locs cells slots mc ms (F0 m pc ls st0) rest (Qc ([Value.ref a] : List Value).toArray) free := by
  have hz := zarg C0 hP hD hS isC hC hn (av := [.ref a])
  obtain ⟨hx, hb, hml, hown, ht, hK, hX, hA, -⟩ := C0
  exact va_runIN (As := []) (rest := rest) ⟨hx, hb, hml, hown, ht⟩ hM ⟨va_cnB 0 ht (zw_of hcw) rfl hrc hrs (hX.2.2.2.2.2.2.2.2 _ hlk) (ht _ hini) hd hR, hyn, ht _ hin⟩ ⟨zPre.blind, hz⟩ rfl rfl hsz hst (lv_room hrw) hdg hroom
end ZN
theorem zone {s : State} : ∀ c1 c2 : ClassId, va_RA s c1 .int → va_RA s c2 .int → c1 = c2 := fun _ _ h1 h2 => Option.some.inj (h1.symm.trans h2)
theorem zoneL {s : State} : ∀ c1 c2 : ClassId, va_RA s c1 .long → va_RA s c2 .long → c1 = c2 := fun _ _ h1 h2 => Option.some.inj (h1.symm.trans h2)
theorem zoneC {s : State} : ∀ c1 c2 : ClassId, va_RA s c1 .char → va_RA s c2 .char → c1 = c2 := fun _ _ h1 h2 => Option.some.inj (h1.symm.trans h2)
def z0 : Nat → Nat := fun _ => 0
def z00 : Nat → Int32 := fun _ => 0
theorem za_i {n : Nat} (cA : ClassId) : vp_cell cA (n, .inl (nF z0)) = arrV cA n (fun _ => defaultValue .int) := rfl
theorem za_r {n : Nat} (cA : ClassId) : vp_cell cA (n, .inl z00) = arrV cA n (fun _ => defaultValue .int) := rfl
theorem za_c {n : Nat} (cA : ClassId) : vp_cell cA (n, .inl (nF z0)) = arrV cA n (fun _ => defaultValue .char) := rfl
theorem za_l {n : Nat} (cA : ClassId) : vp_cell cA (n, .inr (.inl (lF z0))) = arrV cA n (fun _ => defaultValue .long) := rfl
theorem po_1 : ∀ j, j < 1 → uN z0 0 1 j = 10 ^ j := fun j hj => by
  obtain rfl : j = 0 := by omega
  rfl
theorem po_s {po : Nat → Nat} {i : Nat} (h1 : 1 ≤ i) (h : ∀ j, j < i → po j = 10 ^ j) : ∀ j, j < i + 1 → uN po i (10 * po (i - 1)) j = 10 ^ j := fun j hj => by
  unfold uN
  by_cases hz : j = i
  · rw [if_pos hz, h (i - 1) (by omega), hz]
    obtain ⟨n, rfl⟩ : ∃ n, i = n + 1 := ⟨i - 1, by omega⟩
    rw [Nat.pow_succ]
    simp only [Nat.add_sub_cancel]
    omega
  · rw [if_neg hz]
    exact h j (by omega)

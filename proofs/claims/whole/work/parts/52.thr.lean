def zEx : String := "java/lang/IllegalArgumentException"
def zEn : List String := ["java/lang/RuntimeException", "java/lang/Exception"]
theorem zEg : ∀ w ∈ (vx_at0 "DigitChip" 33 "java/lang/IllegalArgumentException" ["java/lang/RuntimeException", "java/lang/Exception"]).filter goodWord, w ∈ lw_tbl := by decide +kernel
theorem zEb : ∀ w ∈ (vx_at0 "DigitChip" 33 "java/lang/IllegalArgumentException" ["java/lang/RuntimeException", "java/lang/Exception"]).filter (fun w => !goodWord w), w ∈ zL := by decide +kernel
theorem zEo : ∀ w ∈ Cond.classLink "DigitChip" 31 "java/lang/IllegalArgumentException" :: Cond.initialized "java/lang/IllegalArgumentException" :: vx_at0 "DigitChip" 33 "java/lang/IllegalArgumentException" ["java/lang/RuntimeException", "java/lang/Exception"], vx_ot w = true := by decide +kernel
theorem zL_on : ∀ w ∈ zL, w.onTables = true := by decide +kernel
-- what holds where a call has thrown: the world w1
def zBX (D : va_G) (tys : List (ClassId × FieldType)) (w : va_W) (sz : Nat) : String → va_W → State → Prop := fun E w1 t => E = "java/lang/IllegalArgumentException" ∧ zB D tys w sz w1 t
theorem zOfX {l : Launch} {y : MethodName} {b : ByteArray} {n : Nat} {r : Option FieldType} {own : String} {rm : Room} {D : va_G} {tys : List (ClassId × FieldType)} {k : Nat → Nat} {av : List Value} {w : va_W} {sz : Nat} {Qc : Array Value → State → Outcome → State → Prop} {XC : String → State → State → Prop} {mc ms : Nat} {free : Addr → Prop}
    (hpl : plainName y.cls = true) (ho : y.cls = own) (hn : (lg_sl av).length ≤ n)
    (body : ∀ (p : Program) (e : Env) (s : State) (m : MethodId) (below : List Frame) (meth : Method) (c : Code) (A : Nat → Prop) (ls : Array Slot), zCx p s m av.toArray meth c b n own D tys k A → meth.sig.returnType = r → (∀ x ∈ c.exceptionTable.toList, False) → A = va_A w sz → s.heap.size = sz →
      lv_has ls n (lv_args 0 av) → va_P D vCl w s.heap → va_D A w → va_S A s.heap s.heap [] → W p l e rm s m av.toArray below meth c s.heap [] 0 0 (vx_MQ below Qc XC av.toArray s mc ms free) (F0 m 0 ls [])) :
    vx_Met l y (zw y b n r) rm (va_Pc av (zPre D tys k w sz)) Qc XC mc ms free := by
  refine vx_ofW (cc := b) (maxL := n) (ret := r) hpl rfl ?_
  intro p e s m args below meth c s₁ B hml hex hv
  obtain ⟨rfl, hsz, hP, hK, hD0, hX⟩ := hv
  have hts := atoms_spec (ws := zw y b n r) B.pre
  have hown : s.vm.findClass own = some m.cls := by rw [← ho]; exact findClass_of_methodNamed B.named
  rw [lg_entry_eq]
  refine body p e s m below meth c (va_A w sz) _ ⟨B.exec, B.bytes, hml, hown, fun w hw => hts w (List.mem_cons_of_mem _ hw), hK, hX, fun q hq => Or.inr (by omega), B.notSynchronized⟩ B.returns hex rfl hsz (lv_entry av hn) hP (hD0.self) va_S.rf
section ZT
variable {p : Program} {l : Launch} {e : Env} {R : Room} {s : State} {m : MethodId} {args : Array Value} {below : List Frame} {meth : Method} {c : Code} {H : Heap} {locs : List Loc} {Q : State → Prop} {cc : ByteArray} {pc nL : Nat} {ls : Array Slot} {rest st0 : List Value} {D : va_G} {tys : List (ClassId × FieldType)} {k : Nat → Nat} {A : Nat → Prop} {w w1 : va_W} {sz : Nat}
theorem zthrow {Qc : Array Value → State → Outcome → State → Prop} {px : va_W → Prop} (C0 : zCx p s m args meth c cc nL "DigitChip" D tys k A) (hlt : l.stackTraces = false) (hex : ∀ x ∈ c.exceptionTable.toList, False) (hAe : A = va_A w sz) (hP : va_P D vCl w1 H) (hD : va_D A w1) (hS : va_S A s.heap H locs) (hpx : px w1) (hsz : ls.size = nL)
    (d0 : decode cc pc = .ok (.new 31, 3)) (d3 : decode cc (pc + 3) = .ok (.dup, 1)) (d4 : decode cc (pc + 4) = .ok (.invokespecial 33, 3)) (d7 : decode cc (pc + 7) = .ok (.athrow, 1))
    (hRf : 5 < R.frames) (hRl : (rest.map fun v => v.category).sum + 81 ≤ R.locals) (hRc : 1 ≤ R.cells) (hRs : 6 ≤ R.slots) :
    W p l e R s m args below meth c H locs 0 0 (vx_MQ below Qc (vx_X px (zBX D tys w sz) (va_A w sz)) args s 1 6 (va_A w sz)) (F0 m pc ls rest) := by
  obtain ⟨hx, hb, hml, hown, ht, hK, hX, hA, hl⟩ := C0
  subst hAe
  refine vx_throw0 (own := "DigitChip") (cls := "java/lang/IllegalArgumentException") (names := ["java/lang/RuntimeException", "java/lang/Exception"]) (ik := 31) (ic := 33) (A := va_A w sz) hx hb hlt hown (by decide) (by decide) (ht _ (zT_in (by decide +kernel) rfl)) (ht _ (zT_in (by decide +kernel) rfl))
    (vx_hat (B := zL) (fun w hw => ht w (zT_in (zEg w hw) (List.mem_filter.mp hw).2)) zEb (fun w hw => ?_)) zEo hX.2.2.2.2.2.1 hX.2.2.2.2.2.2.1 hS (by rw [hml]; exact hsz) d0 d3 d4 d7 (fun x hx => (hex x hx).elim) hRf (by simpa using hRl) (by omega) (by omega) hl (fun t hvm hz hq => ?_) hS.2.2 (by omega) (by omega)
  · have h1 := hX.2.2.2.2.2.2.2.2 w hw
    exact va_Nw.use (zL_on w hw) h1
  · refine ⟨w1, hpx, ⟨rfl, hP.kept (fun j q hj => ?_), va_K.moved hvm hK, hD⟩, ?_⟩
    · exact hq q.1 (hP j q hj).lt
    · refine ⟨Nat.le_trans hS.1 hz, fun q h1 h2 => ?_⟩
      rw [hq q (Nat.lt_of_lt_of_le h1 hS.1)]
      exact hS.2.1 q h1 h2
end ZT
theorem okT_r {tx : Nat → Nat} {ln : Nat} (hln : ln ≤ 240) : ∀ {r a : Nat} {T : AS}, r + a = ln → okT T → okT (tR tx ln r a T).2
  | 0, a, T, e, h => h
  | r + 1, a, T, e, h => by
    rw [t_w]
    split
    · split
      · rename_i T' hT
        exact okT_r hln (by omega) (okT_t (by omega) h hT)
      · exact h
    · exact okT_r hln (by omega) h
theorem asm_ct {tx : Nat → Nat} {ln : Nat} {lb : Nat → Int32} {wo bg : Nat → Nat} (hln : ln ≤ 240) (hw : ∀ j, wo j < 1024) (hb : ∀ j, bg j < 240) : (asm tx ln lb wo bg).2.2.1 ≤ 64 := by
  have h := okT_r (tx := tx) (ln := ln) hln (r := ln) (a := 0) rfl (okT_0 (lb := lb) hw hb)
  unfold asm
  revert h
  generalize tR tx ln ln 0 (fil lb (-1) 26, 0, wo, bg) = Z
  intro h
  obtain ⟨ia, lb1, ct, wo1, bg1⟩ := Z
  dsimp only
  split
  · exact h.1
  · exact h.1

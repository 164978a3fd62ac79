theorem zL_tb : ∀ w ∈ zL, w ∈ lw_tbl := by decide +kernel
theorem sr_tb : ∀ i, i < 7 → Cond.stringRef "DigitChip$Assembler" (zE.getD i 0) (zN.getD i "") ∈ lw_tbl := by decide +kernel
set_option maxRecDepth 100000 in
theorem zX_start {s : State} {b : Nat} (hts : ∀ w ∈ lw_tbl, w.before #[Value.ref b] s = true) (hgv : (Jvm.Cond.and given_1 narrow_1).before #[Value.ref b] s = true) : ∃ k : Nat → Nat, zX k (fun q => s.heap.size ≤ q) s := by
  have hg : ∀ w ∈ gvL, w.before #[Value.ref b] s = true := flat_of_before _ hgv
  have hA : ∀ a : Nat, a < s.heap.size → ¬ (fun q => s.heap.size ≤ q) a := fun a h => by dsimp only; omega
  obtain ⟨t0, ht0, hT0⟩ := va_Tof (f := fun j => .long (lN (10 ^ j))) (A := fun q => s.heap.size ≤ q) (N := 15) (by decide) (hg _ gv_t1) (va_eqt (hg _ gv_t2)) (fun j hj => va_eqtl (hg _ (gv_t j hj))) hA
  obtain ⟨adK, adV, hSS, hev⟩ := vk_Sof (N := 7) (tm := tmS) (len := (List.range 7).map fun i => (zS i).length) (byt := (List.range 7).map fun i => (zS i).map nI) (A := fun q => s.heap.size ≤ q) gv_len (fun i hi => hg _ (gv_ex i hi)) (fun i hi => hg _ (gv_co i hi)) (fun i hi => hg _ (gv_ar i hi)) (fun i hi => hg _ (gv_le i hi)) (fun i hi j hj => hg _ (gv_el i hi j hj))
    (fun i j hi hj hne => (gv_ne i hi j hj hne).elim (fun h => Or.inl (hg _ h)) (fun h => Or.inr (hg _ h))) hA
  obtain ⟨k, hk0, e1, e2⟩ : ∃ k : Nat → Nat, k 0 = t0 ∧ (∀ i, i < 7 → k (i + 1) = adK i) ∧ (∀ i, k (i + 8) = adV i) :=
    ⟨fun i => if i = 0 then t0 else if i < 8 then adK (i - 1) else adV (i - 8), rfl, fun i hi => by
      dsimp only
      rw [if_neg (by omega), if_pos (by omega), Nat.add_sub_cancel], fun i => by
      dsimp only
      rw [if_neg (by omega), if_neg (by omega), Nat.add_sub_cancel]⟩
  refine ⟨k, ?_, ?_, ?_, ⟨fun i hi => ?_, fun i j hi hj e => ?_⟩, fun i hi => ?_, ?_, ?_, ?_, fun w hw => ?_⟩
  · rw [hk0]
    exact va_Zof (hts _ b205) (hts _ b5) ht0 hA
  · rw [hk0]
    exact hT0
  · exact va_Zof (hts _ b42) (hts _ (by decide +kernel)) (va_eqi (hg _ gv_cs)) hA
  · have h := hSS.1 i hi
    rw [← e1 i hi, ← e2 i] at h
    exact h
  · exact hSS.2 i j hi hj (by rw [← e1 i hi, ← e1 j hj]; exact e)
  · rw [e1 i hi]
    exact vk_R.of (hts _ (sr_tb i hi)) (hev i hi)
  · exact vx_Zqof (hts _ (by decide +kernel)) (hts _ (by decide +kernel)) (hg _ gv_u) hA
  · exact vx_Zqof (hts _ (by decide +kernel)) (hts _ (by decide +kernel)) (hg _ gv_s) hA
  · exact va_Zqof (hts _ b279) (hts _ (by decide +kernel)) (hg _ gv_f) hA
  · exact va_Nw.of (zL_on w hw) (hts _ (zL_tb w hw))

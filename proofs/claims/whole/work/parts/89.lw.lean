section ZLX
variable {p : Program} {l : Launch} {e : Env} {R : Room} {s : State} {m : MethodId} {args : Array Value} {below : List Frame} {meth : Method} {c : Code} {H : Heap} {locs : List Loc} {cells slots : Nat} {Q : State → Prop} {cc : ByteArray} {pc nL : Nat} {ls : Array Slot} {rest st0 : List Value} {own : String} {D : va_G} {tys : List (ClassId × FieldType)} {k : Nat → Nat} {A : Nat → Prop} {w w1 wc wr : va_W} {sz : Nat}
theorem zgo_iN {post : Int32 → va_W → Prop} {a : Array Value} {mc ms : Nat} (C0 : zCx p s m args meth c cc nL own D tys k A) (hr : va_Run p l e R s m args below meth c H locs cells slots mc ms (F0 m pc ls st0) rest (va_Qi post (zB D tys wc H.size) (va_A wc H.size) a) (va_A wc H.size))
    (hP : va_P D vCl w H) (hD : va_D A w) (hS : va_S A s.heap H locs) (isC isR : List Nat) (hC : isC.map (fun i => w[i]?) = wc.map some) (hR : isR.map (fun i => w[i]?) = wr.map some) (hn : va_nd isR = true) (hdis : ∀ i ∈ isR, i ∉ isC)
    (kk : ∀ (r : Int32) (w1 : va_W) (H1 : Heap) (locs1 : List Loc), post r w1 → va_P D vCl (wr ++ w1) H1 → va_D A (wr ++ w1) → va_S A s.heap H1 locs1 → W p l e R s m args below meth c H1 locs1 (cells + mc) (slots + ms) Q (F0 m (pc + 3) ls (.int r :: rest))) :
    W p l e R s m args below meth c H locs cells slots Q (F0 m pc ls st0) := by
  obtain ⟨-, -, -, -, -, hK, hX, hA, -⟩ := C0
  have hFc := va_free (wc := wc) hD hS hA isC hC
  refine va_calli hr hS (fun q _ h => hFc q h) hFc (fun r u t H1 locs1 ht hvm hw hB hz1 hk1 hS1 => ?_)
  obtain ⟨hP1, hK1, hD1⟩ := hB
  rw [ht] at hP1
  obtain ⟨hP2, hD2⟩ := va_join (wr := wr) (w1 := u) hP hD isC isR hC hR hn hdis hk1 hFc hP1 hD1
  exact kk r u H1 locs1 hw hP2 hD2 hS1
theorem zrunSW {y : MethodName} {b : ByteArray} {n na i mc ms : Nat} {r : Option FieldType} {hh : List (Nat × Nat × Nat × Nat)} {rm : Room} {As : List Value} {Qc : Array Value → State → Outcome → State → Prop} {free : Addr → Prop}
    (C0 : zCx p s m args meth c cc nL own D tys k A) (hP : va_P D vCl w H) (hD : va_D A w) (hS : va_S A s.heap H locs) (isC : List Nat) (hC : isC.map (fun i => w[i]?) = wc.map some) (hn : va_nd isC = true)
    (hM : Met l y (zwW y b n r hh) rm (va_Pc As (zPre D tys k wc H.size)) Qc mc ms free) (hg : GoodIn zT (va_wsS own i y (zwW y b n r hh)))
    (hd : y.cls ≠ "java/lang/invoke/MethodHandle" ∧ y.cls ≠ "java/lang/invoke/VarHandle" ∧ (parseMethodDescriptor y.desc).map (fun d => d.parameters.length) = some na) (hrc : rm.cells = mc) (hrs : rm.slots = ms) (hR : rm.frames + 1 ≤ R.frames ∧ 8 + (n + 11) + rm.locals ≤ R.locals)
    (hla : As.length = na) (hsz : ls.size = nL) (hst : st0 = As.reverse ++ rest) (hrw : (rest.map fun v => v.category).sum ≤ 8) (hdg : decode cc pc = .ok (.invokestatic i, 3)) (hroom : cells + mc ≤ R.cells ∧ slots + ms ≤ R.slots) :
    va_Run p l e R s m args below meth c H locs cells slots mc ms (F0 m pc ls st0) rest (Qc As.toArray) free := by
  have hz := zarg C0 hP hD hS isC hC hn (av := As)
  obtain ⟨hx, hb, hml, hown, ht, hK, hX, hA, -⟩ := C0
  exact vx_runSW (As := As) (rest := rest) ⟨hx, hb, hml, hown, ht⟩ hM (vx_cwSW na ht hg rfl hrc hrs hd hR) ⟨zPre.blind, hz⟩ rfl hla hsz hst (lv_room hrw) hdg hroom
-- a public constructor
theorem zg_I {own : String} {i n : Nat} {y : MethodName} {b : ByteArray} {r : Option FieldType} (h5 : Cond.code y b n r ∈ zT) : GoodIn zT (zw y b n r) := zw_of h5
theorem zrunI {y : MethodName} {b : ByteArray} {n i mc ms : Nat} {rm : Room} {a : Nat} {Qc : Array Value → State → Outcome → State → Prop} {free : Addr → Prop}
    (C0 : zCx p s m args meth c cc nL own D tys k A) (hP : va_P D vCl w H) (hD : va_D A w) (hS : va_S A s.heap H locs) (isC : List Nat) (hC : isC.map (fun i => w[i]?) = wc.map some) (hn : va_nd isC = true)
    (hM : Met l y (zw y b n none) rm (va_Pc [.ref a] (zPre D tys k wc H.size)) Qc mc ms free) (hcw : Cond.code y b n none ∈ zT) (hlk : Cond.methodLink own i y ∈ zT) (hini : Cond.initialized y.cls ∈ zT) (hin : Cond.instanceMethod y ∈ zT) (hyn : y.name = "<init>")
    (hd : y.cls ≠ "java/lang/invoke/MethodHandle" ∧ y.cls ≠ "java/lang/invoke/VarHandle" ∧ (parseMethodDescriptor y.desc).map (fun d => d.parameters.length) = some 0) (hrc : rm.cells = mc) (hrs : rm.slots = ms) (hR : rm.frames + 1 ≤ R.frames ∧ 8 + (n + 11) + rm.locals ≤ R.locals)
    (hsz : ls.size = nL) (hst : st0 = .ref a :: rest) (hrw : (rest.map fun v => v.category).sum ≤ 8) (hdg : decode cc pc = .ok (.invokespecial i, 3)) (hroom : cells + mc ≤ R.cells ∧ slots + ms ≤ R.slots) :
    va_Run p l e R s m args below meth c H locs cells slots mc ms (F0 m pc ls st0) rest (Qc ([Value.ref a] : List Value).toArray) free := by
  have hz := zarg C0 hP hD hS isC hC hn (av := [.ref a])
  obtain ⟨hx, hb, hml, hown, ht, hK, hX, hA, -⟩ := C0
  exact va_runI (As := []) (rest := rest) ⟨hx, hb, hml, hown, ht⟩ hM (cwI 0 ht (zw_of hcw) rfl hrc hrs (ht _ hini) (ht _ hlk) (ht _ hin) hyn hd hR) ⟨zPre.blind, hz⟩ rfl rfl hsz hst (lv_room hrw) hdg hroom
end ZLX
-- what holds of the two at the loop's head
def lwI (tx : Nat → Nat) (ln : Nat) (wo bg me nu ro ro' : Nat → Nat) (un li un' li' pt : Nat) (st : Int32) (cy pl bk kc : Nat) (po : Nat → Nat) : Prop :=
  okS (me, nu, ro, un, li, pt, st, cy, pl, bk, 0, kc) ∧ okS (me, nu, ro', un', li', pt, st, cy, pl, bk, 0, kc) ∧ (∀ j, j < kc → ro j = ro' j) ∧ ln ≤ 240 ∧ (∀ j, tx j < 127) ∧ (∀ j, j < ln → 32 ≤ tx j) ∧ (∀ j, wo j < 1024) ∧ (∀ j, bg j < 240) ∧ (∀ j, j < 15 → po j = 10 ^ j)
theorem lw_15 (x : Int32) : ∃ n, n < 16 ∧ x &&& nI 15 = nI n := by
  refine ⟨(x &&& nI 15).toBitVec.toNat, ?_, ?_⟩
  · rw [Int32.toBitVec_and, BitVec.toNat_and]
    exact Nat.lt_of_le_of_lt Nat.and_le_right (by decide)
  · apply Int32.toBitVec_inj.mp
    show _ = BitVec.ofNat 32 _
    rw [BitVec.ofNat_toNat, BitVec.setWidth_eq]
theorem lw_gt {L i : Nat} (hL : L ≤ 2048) (hi : i ≤ 4000) : Int32.ofNat L - nI 4 < nI i ↔ L < i + 4 := by
  by_cases h : 4 ≤ L
  · rw [show Int32.ofNat L - nI 4 = nI (L - 4) from pk_sub h, nI_ltI (by omega) (by omega)]
    omega
  · have key : ∀ n, n < 4 → (Int32.ofNat n - nI 4).toInt < 0 := by decide
    have := key L (by omega)
    rw [Int32.lt_iff_toInt_lt, nI_toInt (by omega)]
    omega
theorem lw_c (x : Int32) : ∃ n, n < 65536 ∧ (x.toUInt32 % 65536).toInt32 = nI n := by
  refine ⟨(x.toUInt32 % 65536).toNat, ?_, ?_⟩
  · rw [UInt32.toNat_mod]
    exact Nat.mod_lt _ (by decide)
  · apply Int32.toBitVec_inj.mp
    show (x.toUInt32 % 65536).toBitVec = BitVec.ofNat 32 (x.toUInt32 % 65536).toBitVec.toNat
    rw [BitVec.ofNat_toNat, BitVec.setWidth_eq]

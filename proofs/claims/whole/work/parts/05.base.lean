theorem zw_map {α β : Type} {f : α → Option β} : ∀ {is : List α} {wc : List β}, is.map f = wc.map some → is.filterMap f = wc
  | [], [], _ => rfl
  | [], _ :: _, h => by simp at h
  | _ :: _, [], h => by simp at h
  | i :: is, w :: wc, h => by
    simp only [List.map_cons, List.cons.injEq] at h
    rw [List.filterMap_cons, h.1]
    simp only
    rw [zw_map h.2]
theorem zT_good {w : Cond} (h : w ∈ zT) : (w.onTables && w.keeps) = true ∨ ∃ ty, w = .arrayClass ty := good_of_word (List.mem_filter.mp h).2
def zw (y : MethodName) (b : ByteArray) (n : Nat) (r : Option FieldType) : List Cond := Cond.code y b n r :: zT
theorem zw_of {y : MethodName} {b : ByteArray} {n : Nat} {r : Option FieldType} (h : Cond.code y b n r ∈ zT) : GoodIn zT (zw y b n r) := fun w hw => by
  rcases List.mem_cons.mp hw with rfl | hw
  · exact ⟨h, zT_good h⟩
  · exact ⟨hw, zT_good hw⟩
theorem zg_V {own C : String} {i n : Nat} {y : MethodName} {b : ByteArray} {r : Option FieldType} (h1 : Cond.methodLink own i y ∈ zT) (h2 : Cond.instanceMethod y ∈ zT) (h3 : Cond.selects C y y ∈ zT) (h4 : Cond.initialized C ∈ zT) (h5 : Cond.code y b n r ∈ zT) : GoodIn zT (wsV own i C y (zw y b n r)) := by
  intro w hw
  rcases List.mem_append.mp hw with hw | hw
  · simp only [List.mem_cons, List.not_mem_nil, or_false] at hw
    rcases hw with rfl | rfl | rfl | rfl
    · exact ⟨h1, zT_good h1⟩
    · exact ⟨h2, zT_good h2⟩
    · exact ⟨h3, zT_good h3⟩
    · exact ⟨h4, zT_good h4⟩
  · exact zw_of h5 w hw
theorem zg_S {own : String} {i n : Nat} {y : MethodName} {b : ByteArray} {r : Option FieldType} (h1 : Cond.methodLink own i y ∈ zT) (h2 : Cond.static y ∈ zT) (h4 : Cond.initialized y.cls ∈ zT) (h5 : Cond.code y b n r ∈ zT) : GoodIn zT (va_wsS own i y (zw y b n r)) := by
  intro w hw
  rcases List.mem_append.mp hw with hw | hw
  · simp only [List.mem_cons, List.not_mem_nil, or_false] at hw
    rcases hw with rfl | rfl | rfl
    · exact ⟨h1, zT_good h1⟩
    · exact ⟨h2, zT_good h2⟩
    · exact ⟨h4, zT_good h4⟩
  · exact zw_of h5 w hw
-- what the start gives of constants: the powers of ten, String's flag, seven texts, two statics of Throwable
def zN : List String := [":L", "@L >L", "no p=N ?p=N sN+ sN- ?sN lN p+ p- push pop back key stop C:M down", "A=0.F B=0.F C=0.F A:B.F B=A.F A:C.F C=B.F B:C.F A=A+B.F A=A+C.F C=A+C.F A=A+1.F C=C+1.F A=A-B.F A=A-C.F C=A-C.F A=A-1.F C=C-1.F C=-C.F C=-C-1.F A<.F A>.F B>.F C>.F ?A<B.F ?A<C.F ?B.F ?C.F ?A=0.F ?C=0.F C=C+C.F A=C.F", "0123456789abcdef", "pqexsmnw", "abcdefghijklmnopqrstuvwxyz"]
def zE : List Nat := [66, 83, 79, 81, 93, 98, 19]
def zS (i : Nat) : List Nat := (zN.getD i "").toList.map Char.toNat
-- words that the list zT can't hold: they are carried by the state
def zL : List Cond := [.declares ⟨"java/lang/RuntimeException", "<init>", "()V"⟩, .declares ⟨"java/lang/Exception", "<init>", "()V"⟩, .declares ⟨"java/lang/Throwable", "<init>", "()V"⟩, .castable "java/lang/IllegalArgumentException" "java/lang/IllegalArgumentException",
  .methodLinkNest "DigitChip" 9 ⟨"DigitChip$Assembler", "<init>", "()V"⟩ "DigitChip", .methodLinkNest "DigitChip" 18 ⟨"DigitChip$Processor", "<init>", "()V"⟩ "DigitChip", .methodLinkNest "DigitChip$Processor" 17 ⟨"DigitChip$Registers", "<init>", "()V"⟩ "DigitChip", .methodLinkNest "DigitChip$Processor" 24 ⟨"DigitChip$Waiting", "<init>", "()V"⟩ "DigitChip"]
theorem zL_warm {s U : State} (hW : s.WarmedH U.vm) (h : ∀ w ∈ zL, va_Nw w s) : ∀ w ∈ zL, va_Nw w U := by
  intro w hw
  have h1 := h w hw
  simp only [zL, List.mem_cons, List.not_mem_nil, or_false] at hw
  rcases hw with rfl | rfl | rfl | rfl | rfl | rfl | rfl | rfl
  · exact va_Nw.warmD hW h1
  · exact va_Nw.warmD hW h1
  · exact va_Nw.warmD hW h1
  · exact va_Nw.warmC hW h1
  · exact va_Nw.warmM hW h1
  · exact va_Nw.warmM hW h1
  · exact va_Nw.warmM hW h1
  · exact va_Nw.warmM hW h1
theorem zL_same {s U : State} (hv : s.vm = U.vm) (h : ∀ w ∈ zL, va_Nw w s) : ∀ w ∈ zL, va_Nw w U := by
  intro w hw
  have h1 := h w hw
  simp only [zL, List.mem_cons, List.not_mem_nil, or_false] at hw
  rcases hw with rfl | rfl | rfl | rfl | rfl | rfl | rfl | rfl <;> exact va_Nw.same rfl hv h1
def zX (k : Nat → Nat) (A : Nat → Prop) (U : State) : Prop :=
  va_Z "DigitChip$Registers" "TENS" "[J" (.ref (k 0)) A U U.heap ∧ va_T .long (k 0) 15 (fun j => .long (lN (10 ^ j))) A U U.heap ∧ va_Z "java/lang/String" "COMPACT_STRINGS" "Z" (.int 1) A U U.heap ∧
  vk_S 7 ((List.range 7).map fun i => (zS i).length) ((List.range 7).map fun i => (zS i).map nI) (fun i => k (i + 1)) (fun i => k (i + 8)) A U U.heap ∧
  (∀ i, i < 7 → vk_R "DigitChip$Assembler" (zE.getD i 0) (zN.getD i "") (k (i + 1)) U) ∧
  vx_Zq Bundle.tN "UNASSIGNED_STACK" Bundle.steD A U U.heap ∧ vx_Zq Bundle.tN "SUPPRESSED_SENTINEL" Bundle.listD A U U.heap ∧ va_Zq "jdk/internal/util/Preconditions" "SIOOBE_FORMATTER" "Ljava/util/function/BiFunction;" A U U.heap ∧ (∀ w ∈ zL, va_Nw w U)
theorem zX.to {k : Nat → Nat} {A B : Nat → Prop} {s U : State} {H : Heap} {locs : List Loc} (h : zX k A s) (hS : va_S A s.heap H locs) (hU : U.heap = H) (hW : s.WarmedH U.vm) (hB : ∀ q, B q → A q) : zX k B U := by
  obtain ⟨h1, h2, h3, h4, h5, h6, h7, h8, h9⟩ := h
  unfold zX
  rw [hU]
  exact ⟨va_Z.moved hW.alike ((h1.kept hS.2.1).narrow hB), va_T.moved hW.alike ((h2.kept hS.2.1).narrow hB), va_Z.moved hW.alike ((h3.kept hS.2.1).narrow hB), vk_S.moved hW.alike ((h4.kept hS.2.1).narrow hB), fun i hi => (h5 i hi).warm hW, vx_Zq.moved hW.alike ((h6.kept hS.2.1).narrow hB), vx_Zq.moved hW.alike ((h7.kept hS.2.1).narrow hB), va_Zq.moved hW.alike ((h8.kept hS.2.1).narrow hB), zL_warm hW h9⟩
theorem zX.blind {k : Nat → Nat} {A : Nat → Prop} {U V : State} (h : zX k A U) (hH : V.heap = U.heap) (hv : V.vm = U.vm) : zX k A V := by
  obtain ⟨h1, h2, h3, h4, h5, h6, h7, h8, h9⟩ := h
  have ha : U.vm.Alike V.vm := by rw [hv]; exact Vm.Alike.refl U.vm
  unfold zX
  rw [hH]
  exact ⟨va_Z.moved ha h1, va_T.moved ha h2, va_Z.moved ha h3, vk_S.moved ha h4, fun i hi => (h5 i hi).same hv, vx_Zq.moved ha h6, vx_Zq.moved ha h7, va_Zq.moved ha h8, zL_same hv.symm h9⟩
theorem zR7 {α : Type} {f : Nat → α} {d : α} {i : Nat} (h : i < 7) : ((List.range 7).map f).getD i d = f i := by
  simp [List.getD, h]
theorem zXs {k : Nat → Nat} {A : Nat → Prop} {s : State} {i : Nat} (h : zX k A s) (hi : i < 7) : va_OF "java/lang/String" "coder" "B" (.int 0) (k (i + 1)) A s s.heap ∧ va_OF "java/lang/String" "value" "[B" (.ref (k (i + 8))) (k (i + 1)) A s s.heap ∧ va_T .byte (k (i + 8)) (zS i).length (fun j => .int (nI ((zS i).getD j 0))) A s s.heap := by
  obtain ⟨-, h1, h2, h3⟩ := h.2.2.2.1.1 i hi
  rw [zR7 hi, zR7 hi] at h3
  refine ⟨h1, h2, ?_⟩
  have e : (fun j => Value.int (((zS i).map nI).getD j 0)) = (fun j => Value.int (nI ((zS i).getD j 0))) := by
    funext j
    congr 1
    simp only [List.getD, List.getElem?_map]
    cases (zS i)[j]? <;> rfl
  rw [e] at h3
  exact h3
-- a contract's start and end over a world
def zPre (D : va_G) (tys : List (ClassId × FieldType)) (k : Nat → Nat) (w : va_W) (sz : Nat) : State → Prop := fun U => U.heap.size = sz ∧ va_P D vCl w U.heap ∧ va_K D vCl tys U ∧ va_D (fun _ => True) w ∧ zX k (va_A w sz) U
def zB (D : va_G) (tys : List (ClassId × FieldType)) (w : va_W) (sz : Nat) : va_W → State → Prop := fun w1 t => va_P D vCl w1 t.heap ∧ va_K D vCl tys t ∧ va_D (va_A w sz) w1
theorem zPre.blind {D : va_G} {tys : List (ClassId × FieldType)} {k : Nat → Nat} {w : va_W} {sz : Nat} {av : List Value} : FrameBlind (va_Pc av (zPre D tys k w sz)) := by
  intro a U g mk q
  obtain ⟨q0, q1, qP, qK, qD, qX⟩ := q
  exact ⟨q0, q1, qP, va_K.moved (u := U) (U := U.calling g mk a) (Vm.Alike.refl U.vm) qK, qD, qX.blind rfl rfl⟩
-- what holds all through a method's body
def zCx (p : Program) (s : State) (m : MethodId) (args : Array Value) (meth : Method) (c : Code) (cc : ByteArray) (nL : Nat) (own : String) (D : va_G) (tys : List (ClassId × FieldType)) (k : Nat → Nat) (A : Nat → Prop) : Prop :=
  p.tables.exec = Jvm.exec ∧ c.code = cc ∧ c.maxLocals = nL ∧ s.vm.findClass own = some m.cls ∧ (∀ w ∈ zT, w.before args s = true) ∧ va_K D vCl tys s ∧ zX k A s ∧ (∀ q, s.heap.size ≤ q → A q) ∧ meth.locks = false
theorem zOf {l : Launch} {y : MethodName} {b : ByteArray} {n : Nat} {r : Option FieldType} {own : String} {rm : Room} {D : va_G} {tys : List (ClassId × FieldType)} {k : Nat → Nat} {av : List Value} {w : va_W} {sz : Nat} {Qc : Array Value → State → Outcome → State → Prop} {mc ms : Nat} {free : Addr → Prop}
    (hpl : plainName y.cls = true) (ho : y.cls = own) (hn : (lg_sl av).length ≤ n)
    (body : ∀ (p : Program) (e : Env) (s : State) (m : MethodId) (below : List Frame) (meth : Method) (c : Code) (A : Nat → Prop) (ls : Array Slot), zCx p s m av.toArray meth c b n own D tys k A → meth.sig.returnType = r → meth.name = y.name → A = va_A w sz → s.heap.size = sz →
      lv_has ls n (lv_args 0 av) → va_P D vCl w s.heap → va_D A w → va_S A s.heap s.heap [] → W p l e rm s m av.toArray below meth c s.heap [] 0 0 (MQ below Qc av.toArray s mc ms free) (F0 m 0 ls [])) :
    Met l y (zw y b n r) rm (va_Pc av (zPre D tys k w sz)) Qc mc ms free := by
  refine Met.ofW (cc := b) (maxL := n) (ret := r) hpl rfl ?_
  intro p e s m args below meth c s₁ B hml hv
  obtain ⟨rfl, hsz, hP, hK, hD0, hX⟩ := hv
  have hts := atoms_spec (ws := zw y b n r) B.pre
  have hown : s.vm.findClass own = some m.cls := by rw [← ho]; exact findClass_of_methodNamed B.named
  rw [lg_entry_eq]
  refine body p e s m below meth c (va_A w sz) _ ⟨B.exec, B.bytes, hml, hown, fun w hw => hts w (List.mem_cons_of_mem _ hw), hK, hX, fun q hq => Or.inr (by omega), B.notSynchronized⟩ B.returns (name_of_methodNamed B.named B.method).1 rfl hsz (lv_entry av hn) hP (hD0.self) va_S.rf
theorem zOfF {l : Launch} {y : MethodName} {b : ByteArray} {n : Nat} {r : Option FieldType} {own : String} {rm : Room} {D : va_G} {tys : List (ClassId × FieldType)} {k : Nat → Nat} {av : List Value} {w : va_W} {sz : Nat} {Qc : Array Value → State → Outcome → State → Prop} {mc ms : Nat} {free : Addr → Prop}
    (hpl : plainFor y = true) (ho : y.cls = own) (hn : (lg_sl av).length ≤ n)
    (body : ∀ (p : Program) (e : Env) (s : State) (m : MethodId) (below : List Frame) (meth : Method) (c : Code) (A : Nat → Prop) (ls : Array Slot), zCx p s m av.toArray meth c b n own D tys k A → meth.sig.returnType = r → meth.name = y.name → A = va_A w sz → s.heap.size = sz →
      lv_has ls n (lv_args 0 av) → va_P D vCl w s.heap → va_D A w → va_S A s.heap s.heap [] → W p l e rm s m av.toArray below meth c s.heap [] 0 0 (MQ below Qc av.toArray s mc ms free) (F0 m 0 ls [])) :
    Met l y (zw y b n r) rm (va_Pc av (zPre D tys k w sz)) Qc mc ms free := by
  refine va_MetF (cc := b) (maxL := n) (ret := r) hpl rfl ?_
  intro p e s m args below meth c s₁ B hml hv
  obtain ⟨rfl, hsz, hP, hK, hD0, hX⟩ := hv
  have hts := atoms_spec (ws := zw y b n r) B.pre
  have hown : s.vm.findClass own = some m.cls := by rw [← ho]; exact findClass_of_methodNamed B.named
  rw [lg_entry_eq]
  refine body p e s m below meth c (va_A w sz) _ ⟨B.exec, B.bytes, hml, hown, fun w hw => hts w (List.mem_cons_of_mem _ hw), hK, hX, fun q hq => Or.inr (by omega), B.notSynchronized⟩ B.returns (name_of_methodNamed B.named B.method).1 rfl hsz (lv_entry av hn) hP (hD0.self) va_S.rf
section ZR
variable {p : Program} {l : Launch} {e : Env} {R : Room} {s : State} {m : MethodId} {args : Array Value} {below : List Frame} {meth : Method} {c : Code} {H : Heap} {locs : List Loc} {cells slots : Nat} {Q : State → Prop} {cc : ByteArray} {pc nL : Nat} {ls : Array Slot} {rest st0 : List Value} {own : String} {D : va_G} {tys : List (ClassId × FieldType)} {k : Nat → Nat} {A : Nat → Prop} {w w1 wc wr : va_W} {sz : Nat}
theorem zti {x y : Int32} (h : x = y) (kk : W p l e R s m args below meth c H locs cells slots Q (F0 m pc ls (.int y :: rest))) : W p l e R s m args below meth c H locs cells slots Q (F0 m pc ls (.int x :: rest)) := h ▸ kk
theorem ztl {x y : Int64} (h : x = y) (kk : W p l e R s m args below meth c H locs cells slots Q (F0 m pc ls (.long y :: rest))) : W p l e R s m args below meth c H locs cells slots Q (F0 m pc ls (.long x :: rest)) := h ▸ kk
theorem zret_i (C0 : zCx p s m args meth c cc nL own D tys k A) (hr : meth.sig.returnType = some .int) {v : Int32} {post : Int32 → va_W → Prop} (hAe : A = va_A w sz) (hP : va_P D vCl w1 H) (hD : va_D A w1) (hS : va_S A s.heap H locs) (hpost : post v w1) (hdg : decode cc pc = .ok (.ireturn, 1)) :
    W p l e R s m args below meth c H locs cells slots (MQ below (va_Qi post (zB D tys w sz) (va_A w sz)) args s cells slots (va_A w sz)) (F0 m pc ls [.int v]) := by
  obtain ⟨hx, hb, -, -, -, hK, -, -, hl⟩ := C0
  subst hAe
  exact W.iret (hlocks := hl) hx hb hr (fun t ht hW => ⟨⟨v, w1, rfl, hpost, by rw [ht]; exact hP, va_K.moved hW.alike hK, hD⟩, hS.F ht⟩) hS.2.2 hdg
theorem zret_z (C0 : zCx p s m args meth c cc nL own D tys k A) {ty : FieldType} (hr : meth.sig.returnType = some ty) {v : Int32} (hn : narrow ty (.int v) = .int v) {post : Int32 → va_W → Prop} (hAe : A = va_A w sz) (hP : va_P D vCl w1 H) (hD : va_D A w1) (hS : va_S A s.heap H locs) (hpost : post v w1) (hdg : decode cc pc = .ok (.ireturn, 1)) :
    W p l e R s m args below meth c H locs cells slots (MQ below (va_Qi post (zB D tys w sz) (va_A w sz)) args s cells slots (va_A w sz)) (F0 m pc ls [.int v]) := by
  obtain ⟨hx, hb, -, -, -, hK, -, -, hl⟩ := C0
  subst hAe
  exact W.zret (hlocks := hl) hx hb hr hn (fun t ht hW => ⟨⟨v, w1, rfl, hpost, by rw [ht]; exact hP, va_K.moved hW.alike hK, hD⟩, hS.F ht⟩) hS.2.2 hdg
theorem zret_l (C0 : zCx p s m args meth c cc nL own D tys k A) (hr : meth.sig.returnType = some .long) {v : Int64} {post : Int64 → va_W → Prop} (hAe : A = va_A w sz) (hP : va_P D vCl w1 H) (hD : va_D A w1) (hS : va_S A s.heap H locs) (hpost : post v w1) (hdg : decode cc pc = .ok (.lreturn, 1)) :
    W p l e R s m args below meth c H locs cells slots (MQ below (va_Ql post (zB D tys w sz) (va_A w sz)) args s cells slots (va_A w sz)) (F0 m pc ls [.long v]) := by
  obtain ⟨hx, hb, -, -, -, hK, -, -, hl⟩ := C0
  subst hAe
  exact W.lret (hlocks := hl) hx hb hr (fun t ht hW => ⟨⟨v, w1, rfl, hpost, by rw [ht]; exact hP, va_K.moved hW.alike hK, hD⟩, hS.F ht⟩) hS.2.2 hdg
theorem zret_v (C0 : zCx p s m args meth c cc nL own D tys k A) (hr : meth.sig.returnType = none) {post : va_W → Prop} (hAe : A = va_A w sz) (hP : va_P D vCl w1 H) (hD : va_D A w1) (hS : va_S A s.heap H locs) (hpost : post w1) (hdg : decode cc pc = .ok (.return_, 1)) :
    W p l e R s m args below meth c H locs cells slots (MQ below (va_Qv post (zB D tys w sz) (va_A w sz)) args s cells slots (va_A w sz)) (F0 m pc ls []) := by
  obtain ⟨hx, hb, -, -, -, hK, -, -, hl⟩ := C0
  subst hAe
  exact W.vret (hlocks := hl) hx hb hr (fun t ht hW => ⟨⟨w1, rfl, hpost, by rw [ht]; exact hP, va_K.moved hW.alike hK, hD⟩, hS.F ht⟩) hS.2.2 hdg
-- the callee's start, at its part of the world
theorem zarg (C0 : zCx p s m args meth c cc nL own D tys k A) (hP : va_P D vCl w H) (hD : va_D A w) (hS : va_S A s.heap H locs) (isC : List Nat) (hC : isC.map (fun i => w[i]?) = wc.map some) (hn : va_nd isC = true) {av : List Value} :
    ∀ U : State, U.heap = H → s.WarmedH U.vm → va_Pc av (zPre D tys k wc H.size) av.toArray U := by
  obtain ⟨-, -, -, -, -, hK, hX, hA, -⟩ := C0
  intro U hU hW
  exact ⟨rfl, by rw [hU], by rw [hU]; exact hP.sub isC (zw_map hC), va_K.moved hW.alike hK, (hD.sub isC hn hC).weaken (fun _ _ _ _ => trivial), hX.to hS hU hW (va_free hD hS hA isC hC)⟩
theorem zgo_v {post : va_W → Prop} {a : Array Value} (C0 : zCx p s m args meth c cc nL own D tys k A) (hr : va_Run p l e R s m args below meth c H locs cells slots 0 0 (F0 m pc ls st0) rest (va_Qv post (zB D tys wc H.size) (va_A wc H.size) a) (va_A wc H.size))
    (hP : va_P D vCl w H) (hD : va_D A w) (hS : va_S A s.heap H locs) (isC isR : List Nat) (hC : isC.map (fun i => w[i]?) = wc.map some) (hR : isR.map (fun i => w[i]?) = wr.map some) (hn : va_nd isR = true) (hdis : ∀ i ∈ isR, i ∉ isC)
    (kk : ∀ (w1 : va_W) (H1 : Heap) (locs1 : List Loc), post w1 → va_P D vCl (wr ++ w1) H1 → va_D A (wr ++ w1) → va_S A s.heap H1 locs1 → W p l e R s m args below meth c H1 locs1 cells slots Q (F0 m (pc + 3) ls rest)) :
    W p l e R s m args below meth c H locs cells slots Q (F0 m pc ls st0) := by
  obtain ⟨-, -, -, -, -, hK, hX, hA, -⟩ := C0
  have hFc := va_free (wc := wc) hD hS hA isC hC
  refine va_callv hr hS (fun q _ h => hFc q h) hFc (fun u t H1 locs1 ht hvm hw hB hz1 hk1 hS1 => ?_)
  obtain ⟨hP1, hK1, hD1⟩ := hB
  rw [ht] at hP1
  obtain ⟨hP2, hD2⟩ := va_join (wr := wr) (w1 := u) hP hD isC isR hC hR hn hdis hk1 hFc hP1 hD1
  exact kk u H1 locs1 hw hP2 hD2 hS1
theorem zgo_i {post : Int32 → va_W → Prop} {a : Array Value} (C0 : zCx p s m args meth c cc nL own D tys k A) (hr : va_Run p l e R s m args below meth c H locs cells slots 0 0 (F0 m pc ls st0) rest (va_Qi post (zB D tys wc H.size) (va_A wc H.size) a) (va_A wc H.size))
    (hP : va_P D vCl w H) (hD : va_D A w) (hS : va_S A s.heap H locs) (isC isR : List Nat) (hC : isC.map (fun i => w[i]?) = wc.map some) (hR : isR.map (fun i => w[i]?) = wr.map some) (hn : va_nd isR = true) (hdis : ∀ i ∈ isR, i ∉ isC)
    (kk : ∀ (r : Int32) (w1 : va_W) (H1 : Heap) (locs1 : List Loc), post r w1 → va_P D vCl (wr ++ w1) H1 → va_D A (wr ++ w1) → va_S A s.heap H1 locs1 → W p l e R s m args below meth c H1 locs1 cells slots Q (F0 m (pc + 3) ls (.int r :: rest))) :
    W p l e R s m args below meth c H locs cells slots Q (F0 m pc ls st0) := by
  obtain ⟨-, -, -, -, -, hK, hX, hA, -⟩ := C0
  have hFc := va_free (wc := wc) hD hS hA isC hC
  refine va_calli hr hS (fun q _ h => hFc q h) hFc (fun r u t H1 locs1 ht hvm hw hB hz1 hk1 hS1 => ?_)
  obtain ⟨hP1, hK1, hD1⟩ := hB
  rw [ht] at hP1
  obtain ⟨hP2, hD2⟩ := va_join (wr := wr) (w1 := u) hP hD isC isR hC hR hn hdis hk1 hFc hP1 hD1
  exact kk r u H1 locs1 hw hP2 hD2 hS1
theorem zgo_l {post : Int64 → va_W → Prop} {a : Array Value} (C0 : zCx p s m args meth c cc nL own D tys k A) (hr : va_Run p l e R s m args below meth c H locs cells slots 0 0 (F0 m pc ls st0) rest (va_Ql post (zB D tys wc H.size) (va_A wc H.size) a) (va_A wc H.size))
    (hP : va_P D vCl w H) (hD : va_D A w) (hS : va_S A s.heap H locs) (isC isR : List Nat) (hC : isC.map (fun i => w[i]?) = wc.map some) (hR : isR.map (fun i => w[i]?) = wr.map some) (hn : va_nd isR = true) (hdis : ∀ i ∈ isR, i ∉ isC)
    (kk : ∀ (r : Int64) (w1 : va_W) (H1 : Heap) (locs1 : List Loc), post r w1 → va_P D vCl (wr ++ w1) H1 → va_D A (wr ++ w1) → va_S A s.heap H1 locs1 → W p l e R s m args below meth c H1 locs1 cells slots Q (F0 m (pc + 3) ls (.long r :: rest))) :
    W p l e R s m args below meth c H locs cells slots Q (F0 m pc ls st0) := by
  obtain ⟨-, -, -, -, -, hK, hX, hA, -⟩ := C0
  have hFc := va_free (wc := wc) hD hS hA isC hC
  refine va_calll hr hS (fun q _ h => hFc q h) hFc (fun r u t H1 locs1 ht hvm hw hB hz1 hk1 hS1 => ?_)
  obtain ⟨hP1, hK1, hD1⟩ := hB
  rw [ht] at hP1
  obtain ⟨hP2, hD2⟩ := va_join (wr := wr) (w1 := u) hP hD isC isR hC hR hn hdis hk1 hFc hP1 hD1
  exact kk r u H1 locs1 hw hP2 hD2 hS1
-- a call of an object's method, of a static one: the run
theorem zrunV {y : MethodName} {b : ByteArray} {n na i : Nat} {r : Option FieldType} {rm : Room} {C : String} {a : Nat} {As : List Value} {Qc : Array Value → State → Outcome → State → Prop} {free : Addr → Prop} {T : u_T} {N ci : Nat} {fs : List Value}
    (C0 : zCx p s m args meth c cc nL own D tys k A) (hP : va_P D vCl w H) (hD : va_D A w) (hS : va_S A s.heap H locs) (isC : List Nat) (hC : isC.map (fun i => w[i]?) = wc.map some) (hn : va_nd isC = true)
    (hM : Met l y (zw y b n r) rm (va_Pc (.ref a :: As) (zPre D tys k wc H.size)) Qc 0 0 free) (hg : GoodIn zT (wsV own i C y (zw y b n r)))
    (hd : y.cls = C ∧ y.cls ≠ "java/lang/invoke/MethodHandle" ∧ y.cls ≠ "java/lang/invoke/VarHandle" ∧ (parseMethodDescriptor y.desc).map (fun d => d.parameters.length) = some na) (hrc : rm.cells = 0) (hrs : rm.slots = 0) (hR : rm.frames + 1 ≤ R.frames ∧ 8 + (n + 11) + rm.locals ≤ R.locals)
    (q0 : Nat) (he : w[q0]? = some (a, .inr (ci, fs))) (hc : vCl[ci]? = some (C, T, N)) (hla : As.length = na) (hsz : ls.size = nL) (hst : st0 = As.reverse ++ .ref a :: rest) (hrw : (rest.map fun v => v.category).sum ≤ 8) (hdg : decode cc pc = .ok (.invokevirtual i, 3)) (hroom : cells ≤ R.cells ∧ slots ≤ R.slots) :
    va_Run p l e R s m args below meth c H locs cells slots 0 0 (F0 m pc ls st0) rest (Qc (Value.ref a :: As).toArray) free := by
  have hz := zarg C0 hP hD hS isC hC hn (av := .ref a :: As)
  obtain ⟨hx, hb, hml, hown, ht, hK, hX, hA, -⟩ := C0
  exact va_runV (As := As) (rest := rest) ⟨hx, hb, hml, hown, ht⟩ hM (cwV na ht hg rfl hrc hrs hd hR) ⟨zPre.blind, va_recv hK hP hc he, hz⟩ rfl hla hsz hst (lv_room hrw) hdg hroom
theorem zrunR {y : MethodName} {b : ByteArray} {n na i : Nat} {r : Option FieldType} {rm : Room} {C : String} {a : Nat} {As : List Value} {Qc : Array Value → State → Outcome → State → Prop} {free : Addr → Prop}
    (C0 : zCx p s m args meth c cc nL own D tys k A) (hP : va_P D vCl w H) (hD : va_D A w) (hS : va_S A s.heap H locs) (isC : List Nat) (hC : isC.map (fun i => w[i]?) = wc.map some) (hn : va_nd isC = true)
    (hM : Met l y (zw y b n r) rm (va_Pc (.ref a :: As) (zPre D tys k wc H.size)) Qc 0 0 free) (hg : GoodIn zT (wsV own i C y (zw y b n r)))
    (hd : y.cls = C ∧ y.cls ≠ "java/lang/invoke/MethodHandle" ∧ y.cls ≠ "java/lang/invoke/VarHandle" ∧ (parseMethodDescriptor y.desc).map (fun d => d.parameters.length) = some na) (hrc : rm.cells = 0) (hrs : rm.slots = 0) (hR : rm.frames + 1 ≤ R.frames ∧ 8 + (n + 11) + rm.locals ≤ R.locals)
    (hrv : ∃ cell : Cell, H[a]? = some cell ∧ cell.vm.isStatics = false ∧ s.vm.findClass C = some cell.cls) (hla : As.length = na) (hsz : ls.size = nL) (hst : st0 = As.reverse ++ .ref a :: rest) (hrw : (rest.map fun v => v.category).sum ≤ 8) (hdg : decode cc pc = .ok (.invokevirtual i, 3)) (hroom : cells ≤ R.cells ∧ slots ≤ R.slots) :
    va_Run p l e R s m args below meth c H locs cells slots 0 0 (F0 m pc ls st0) rest (Qc (Value.ref a :: As).toArray) free := by
  have hz := zarg C0 hP hD hS isC hC hn (av := .ref a :: As)
  obtain ⟨hx, hb, hml, hown, ht, hK, hX, hA, -⟩ := C0
  exact va_runV (As := As) (rest := rest) ⟨hx, hb, hml, hown, ht⟩ hM (cwV na ht hg rfl hrc hrs hd hR) ⟨zPre.blind, hrv, hz⟩ rfl hla hsz hst (lv_room hrw) hdg hroom
theorem zrunS {y : MethodName} {b : ByteArray} {n na i : Nat} {r : Option FieldType} {rm : Room} {As : List Value} {Qc : Array Value → State → Outcome → State → Prop} {free : Addr → Prop}
    (C0 : zCx p s m args meth c cc nL own D tys k A) (hP : va_P D vCl w H) (hD : va_D A w) (hS : va_S A s.heap H locs) (isC : List Nat) (hC : isC.map (fun i => w[i]?) = wc.map some) (hn : va_nd isC = true)
    (hM : Met l y (zw y b n r) rm (va_Pc As (zPre D tys k wc H.size)) Qc 0 0 free) (hg : GoodIn zT (va_wsS own i y (zw y b n r)))
    (hd : y.cls ≠ "java/lang/invoke/MethodHandle" ∧ y.cls ≠ "java/lang/invoke/VarHandle" ∧ (parseMethodDescriptor y.desc).map (fun d => d.parameters.length) = some na) (hrc : rm.cells = 0) (hrs : rm.slots = 0) (hR : rm.frames + 1 ≤ R.frames ∧ 8 + (n + 11) + rm.locals ≤ R.locals)
    (hla : As.length = na) (hsz : ls.size = nL) (hst : st0 = As.reverse ++ rest) (hrw : (rest.map fun v => v.category).sum ≤ 8) (hdg : decode cc pc = .ok (.invokestatic i, 3)) (hroom : cells ≤ R.cells ∧ slots ≤ R.slots) :
    va_Run p l e R s m args below meth c H locs cells slots 0 0 (F0 m pc ls st0) rest (Qc As.toArray) free := by
  have hz := zarg C0 hP hD hS isC hC hn (av := As)
  obtain ⟨hx, hb, hml, hown, ht, hK, hX, hA, -⟩ := C0
  exact va_runS (As := As) (rest := rest) ⟨hx, hb, hml, hown, ht⟩ hM (va_cwS na ht hg rfl hrc hrs hd hR) ⟨zPre.blind, hz⟩ rfl hla hsz hst (lv_room hrw) hdg hroom
end ZR

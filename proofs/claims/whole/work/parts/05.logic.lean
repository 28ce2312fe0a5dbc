/-! THE LOGIC. Heaps by RELATIVE addresses: 0 is the script's cell, k + 1 is the k-th cell made since the law began. A cell: an array (number of its type, length, contents) or an object (number of its class, fields). -/
abbrev q_E : Type := (Nat × vp_A) ⊕ (Nat × List Value)
abbrev q_H : Type := Nat → Option q_E
/-- a post: of the outcome (an answer, or the name of the class thrown), the heap behind it, the number of cells made -/
abbrev q_Q : Type := (Option Value ⊕ String) → q_H → Nat → Prop
/-- the classes' numbers and slots, the array classes, the script's address, the first new address, the script's length and ints -/
abbrev q_G : Type := va_G × (Nat → ClassId) × Nat × Nat × Nat × (Nat → Int32)
abbrev q_ty (G : q_G) : List (ClassId × FieldType) := [(G.2.1 0, .int), (G.2.1 1, .long), (G.2.1 2, .boolean), (G.2.1 3, .object "ZnodeService$Server"), (G.2.1 4, .object "ZnodeService$Session"), (G.2.1 5, .object "ZnodeService$Entry")]
def q_ad (G : q_G) : Nat → Nat
  | 0 => G.2.2.1
  | k + 1 => G.2.2.2.1 + k
def q_A (G : q_G) : Nat → Prop := fun q => G.2.2.2.1 ≤ q
def q_v (G : q_G) : Value → Value
  | .ref a => .ref (q_ad G a)
  | v => v
def q_a (G : q_G) : vp_A → vp_A
  | (n, .inr (.inr (.inr (.inr f)))) => (n, .inr (.inr (.inr (.inr (fun j => (f j).map (q_ad G))))))
  | a => a
def q_e (G : q_G) : q_E → va_E
  | .inl a => .inl (G.2.1 a.1, q_a G a.2)
  | .inr o => .inr (o.1, o.2.map (q_v G))
def q_P (G : q_G) (h : q_H) (N : Nat) (H : Heap) : Prop := H.size = G.2.2.2.1 + N ∧ ∀ (k : Nat) (e : q_E), h k = some e → 0 < k ∧ k ≤ N ∧ va_at G.1 q_cl (q_ad G k, q_e G e) H
def q_up (h : q_H) (k : Nat) (e : q_E) : q_H := fun j => if j = k then some e else h j
def q_lv (G : q_G) (ls : Array Slot) (nL : Nat) (lv : List (Option Value)) : Prop := ls.size = nL ∧ lv_wf ls ∧ ∀ (i : Nat) (v : Value), lv[i]? = some (some v) → ls[i]? = some (.val (q_v G v)) ∧ v.category = 1
def q_nc : List (String × String) := [("java/lang/IllegalStateException", "java/lang/IllegalArgumentException"), ("java/util/NoSuchElementException", "java/lang/IllegalArgumentException"), ("java/lang/UnsupportedOperationException", "java/lang/IllegalArgumentException"), ("java/lang/IndexOutOfBoundsException", "java/lang/IllegalArgumentException"), ("java/util/NoSuchElementException", "java/lang/IllegalStateException"), ("java/lang/UnsupportedOperationException", "java/lang/IllegalStateException"), ("java/lang/IndexOutOfBoundsException", "java/lang/IllegalStateException"), ("java/lang/UnsupportedOperationException", "java/util/NoSuchElementException"), ("java/lang/IndexOutOfBoundsException", "java/util/NoSuchElementException"), ("java/lang/IndexOutOfBoundsException", "java/lang/UnsupportedOperationException")]
def q_ao : List String := ["ZnodeService$Server", "ZnodeService$Session", "ZnodeService$Entry"]
/-- what holds in every state of the run -/
def q_K (G : q_G) (U : State) : Prop := va_K G.1 q_cl (q_ty G) U ∧ va_X G.2.2.1 G.2.2.2.2.1 G.2.2.2.2.2 U U.heap ∧ G.2.2.1 < G.2.2.2.1 ∧ G.2.2.2.1 ≤ U.heap.size ∧ vx_Zq Bundle.tN "UNASSIGNED_STACK" Bundle.steD (q_A G) U U.heap ∧ vx_Zq Bundle.tN "SUPPRESSED_SENTINEL" Bundle.listD (q_A G) U U.heap ∧ (∀ w ∈ q_face, va_Nw w U) ∧ (∀ w ∈ q_nest, va_Nw w U) ∧ (∀ x ∈ q_nc, va_Nc x.1 x.2 U) ∧ ∀ C ∈ q_ao, va_AO C U
/-- what holds in a method's body -/
def q_Cx (l : Launch) (G : q_G) (μ : q_M) (p : Program) (s : State) (m : MethodId) (args : Array Value) (meth : Method) (c : Code) : Prop :=
  p.tables.exec = Jvm.exec ∧ c.code = μ.2.1 ∧ meth.sig.returnType = μ.2.2.2.1 ∧ c.maxLocals = μ.2.2.1 ∧ s.vm.findClass μ.1.cls = some m.cls ∧ (∀ w ∈ q_good, w.before args s = true) ∧ meth.locks = false ∧ c.exceptionTable.toList = tableOf μ.2.2.2.2 ∧ meth.name = μ.1.name ∧ l.stackTraces = false ∧ q_K G s
def q_Qc (G : q_G) (Q : q_Q) : Array Value → State → Outcome → State → Prop := fun _ st o t => ∃ (r : Option Value) (h' : q_H) (N' : Nat), o = .returned (r.map (q_v G)) ∧ Q (.inl r) h' N' ∧ q_P G h' N' t.heap ∧ va_F (q_A G) st t
def q_XC (G : q_G) (Q : q_Q) : String → State → State → Prop := fun E st t => ∃ (h' : q_H) (N' : Nat), Q (.inr E) h' N' ∧ q_P G h' N' t.heap ∧ va_F (q_A G) st t
/-- THE JUDGEMENT: method μ's frame at pc with locals lv, stack st, heap h (N cells made), room for fr frames, lo words, cc cells, ss slots: it ends with Q -/
def q_Ev (l : Launch) (G : q_G) (μ : q_M) (fr lo cc ss pc : Nat) (lv : List (Option Value)) (st : List Value) (h : q_H) (N : Nat) (Q : q_Q) : Prop :=
  ∀ (p : Program) (e : Env) (R : Room) (s : State) (m : MethodId) (args : Array Value) (below : List Frame) (meth : Method) (c : Code) (H : Heap) (locs : List Loc) (cells slots mc ms : Nat) (ls : Array Slot),
    q_Cx l G μ p s m args meth c → q_lv G ls μ.2.2.1 lv → q_P G h N H → va_S (q_A G) s.heap H locs → (fr ≤ R.frames ∧ lo ≤ R.locals ∧ cells + cc ≤ R.cells ∧ slots + ss ≤ R.slots ∧ cells + cc ≤ mc ∧ slots + ss ≤ ms) →
    W p l e R s m args below meth c H locs cells slots (vx_MQ below (q_Qc G Q) (q_XC G Q) args s mc ms (q_A G)) (F0 m pc ls (st.map (q_v G)))
def q_cw (μ : q_M) : Cond := match μ.2.2.2.2 with
  | [] => .code μ.1 μ.2.1 μ.2.2.1 μ.2.2.2.1
  | x :: r => .codeWith μ.1 μ.2.1 μ.2.2.1 μ.2.2.2.1 (x :: r)
def q_Pc (G : q_G) (av : List Value) (h : q_H) (N : Nat) : Array Value → State → Prop := fun v U => v = (av.map (q_v G)).toArray ∧ q_P G h N U.heap ∧ q_K G U
/-- A METHOD'S CONTRACT at these arguments and this heap -/
def q_Met (l : Launch) (G : q_G) (μ : q_M) (fr lo cc ss : Nat) (av : List Value) (h : q_H) (N : Nat) (Q : q_Q) : Prop :=
  vx_Met l μ.1 (q_cw μ :: q_good) { frames := fr, locals := lo, cells := cc, slots := ss } (q_Pc G av h N) (q_Qc G Q) (q_XC G Q) cc ss (q_A G)
theorem q_K.moved {G : q_G} {s U : State} (h : q_K G s) (hW : s.WarmedH U.vm) (hz : s.heap.size ≤ U.heap.size) (hk : ∀ q : Nat, q < s.heap.size → ¬ q_A G q → U.heap[q]? = s.heap[q]?) : q_K G U := by
  obtain ⟨h1, h2, h3, h4, h5, h6, h7, h8, h9, h10⟩ := h
  refine ⟨va_K.moved hW.alike h1, ?_, h3, Nat.le_trans h4 hz, (vx_Zq.moved hW.alike h5).kept hk, (vx_Zq.moved hW.alike h6).kept hk, fun w hw => ?_, fun w hw => ?_, fun x hx => va_Nc.moved hW.alike (h9 x hx), fun C hC => va_AO.moved hW.alike (h10 C hC)⟩
  · exact (va_X.moved hW.alike h2).kept (hk _ (Nat.lt_of_lt_of_le h3 h4) (Nat.not_le.mpr h3))
  · have hf := (List.mem_filter.mp hw).2
    simp only [q_fw, Bool.and_eq_true] at hf
    exact va_tabs hf.2 (rfl : (s.setVm U.vm).vm = U.vm) (Cond.faceAtom_setVm (args := #[]) hW.alike w hf.1 (h7 w hw))
  · have h9 := h8 w hw
    simp only [q_nest, List.mem_cons, List.not_mem_nil, or_false] at hw
    rcases hw with rfl | rfl | rfl | rfl | rfl <;> exact va_Nw.warmM hW h9
theorem q_blind (G : q_G) (av : List Value) (h : q_H) (N : Nat) : FrameBlind (q_Pc G av h N) := fun a U g mk q => ⟨q.1, q.2.1, q.2.2.moved (U := U.calling g mk a) (State.WarmedH.refl U) (Nat.le_refl _) (fun _ _ _ => rfl)⟩
def q_pr (G : q_G) (lv : List (Option Value)) : List (Nat × Value) := lv.zipIdx.filterMap (fun q => q.1.map (fun v => (q.2, q_v G v)))
theorem q_pr_mem {G : q_G} {lv : List (Option Value)} {q : Nat × Value} : q ∈ q_pr G lv ↔ ∃ v : Value, lv[q.1]? = some (some v) ∧ q.2 = q_v G v := by
  simp only [q_pr, List.mem_filterMap]
  constructor
  · rintro ⟨⟨x, i⟩, h1, h2⟩
    cases x with
    | none => simp at h2
    | some v =>
      simp only [Option.map_some, Option.some.injEq] at h2
      subst h2
      exact ⟨v, List.mem_zipIdx_iff_getElem?.mp h1, rfl⟩
  · rintro ⟨v, h1, h2⟩
    refine ⟨(some v, q.1), List.mem_zipIdx_iff_getElem?.mpr h1, ?_⟩
    simp [← h2]
theorem q_v_cat (G : q_G) (v : Value) : (q_v G v).category = v.category := by cases v <;> rfl
theorem q_lv.has {G : q_G} {ls : Array Slot} {nL : Nat} {lv : List (Option Value)} (h : q_lv G ls nL lv) : lv_has ls nL (q_pr G lv) := by
  refine ⟨h.1, h.2.1, fun q hq => ?_⟩
  obtain ⟨v, h1, h2⟩ := q_pr_mem.mp hq
  rw [h2]
  exact (h.2.2 q.1 v h1).1
theorem q_lv.set {G : q_G} {ls ls' : Array Slot} {nL i : Nat} {lv : List (Option Value)} {v : Value} (h : q_lv G ls nL lv) (hc : v.category = 1) (h' : lv_has ls' nL ((i, q_v G v) :: (q_pr G lv).filter (fun q => !(q.1 == i) && !(q.1 + 1 == i && q.2.category == 2)))) : q_lv G ls' nL (lv.set i (some v)) := by
  refine ⟨h'.1, h'.2.1, fun j w hj => ?_⟩
  by_cases e : i = j
  · subst e
    rw [List.getElem?_set_self'] at hj
    cases hl : lv[i]? with
    | none => simp [hl] at hj
    | some x =>
      simp [hl] at hj
      subst hj
      exact ⟨h'.2.2 (i, q_v G v) List.mem_cons_self, hc⟩
  · rw [List.getElem?_set_ne e] at hj
    have h3 := h.2.2 j w hj
    refine ⟨h'.2.2 (j, q_v G w) (List.mem_cons_of_mem _ (List.mem_filter.mpr ⟨q_pr_mem.mpr ⟨w, hj, rfl⟩, ?_⟩)), h3.2⟩
    have e2 : ¬ j = i := fun q => e q.symm
    simp [e2, q_v_cat, h3.2]
theorem q_pr_at {G : q_G} {lv : List (Option Value)} {i : Nat} {v : Value} (h : lv[i]? = some (some v)) : ∃ k : Nat, (q_pr G lv)[k]? = some (i, q_v G v) := List.mem_iff_getElem?.mp (q_pr_mem.mpr ⟨v, h, rfl⟩)
section QR
variable {l : Launch} {G : q_G} {μ : q_M} {fr lo cc ss pc N : Nat} {lv : List (Option Value)} {st : List Value} {h : q_H} {Q : q_Q}
theorem e_iconst {n : Int} {v : Int32} (d : decode μ.2.1 pc = .ok (.iconst n, 1)) (hv : Int32.ofInt n = v) (k : q_Ev l G μ fr lo cc ss (pc + 1) lv (.int v :: st) h N Q) : q_Ev l G μ fr lo cc ss pc lv (st) h N Q :=
  fun p e R s m args below meth c H locs cells slots mc ms ls C hl hP hS hR => lv_iconst C.1 C.2.1 d hv (k p e R s m args below meth c H locs cells slots mc ms ls C hl hP hS hR)
theorem e_bipush {n : Int} {v : Int32} (d : decode μ.2.1 pc = .ok (.bipush n, 2)) (hv : (Int8.ofInt n).toInt32 = v) (k : q_Ev l G μ fr lo cc ss (pc + 2) lv (.int v :: st) h N Q) : q_Ev l G μ fr lo cc ss pc lv (st) h N Q :=
  fun p e R s m args below meth c H locs cells slots mc ms ls C hl hP hS hR => lv_bipush C.1 C.2.1 d hv (k p e R s m args below meth c H locs cells slots mc ms ls C hl hP hS hR)
theorem e_sipush {n : Int} {v : Int32} (d : decode μ.2.1 pc = .ok (.sipush n, 3)) (hv : (Int16.ofInt n).toInt32 = v) (k : q_Ev l G μ fr lo cc ss (pc + 3) lv (.int v :: st) h N Q) : q_Ev l G μ fr lo cc ss pc lv (st) h N Q :=
  fun p e R s m args below meth c H locs cells slots mc ms ls C hl hP hS hR => lv_sipush C.1 C.2.1 d hv (k p e R s m args below meth c H locs cells slots mc ms ls C hl hP hS hR)
theorem e_lconst {n : Fin 2} {v : Int64} (d : decode μ.2.1 pc = .ok (.lconst n, 1)) (hv : Int64.ofNat (n : Nat) = v) (k : q_Ev l G μ fr lo cc ss (pc + 1) lv (.long v :: st) h N Q) : q_Ev l G μ fr lo cc ss pc lv (st) h N Q :=
  fun p e R s m args below meth c H locs cells slots mc ms ls C hl hP hS hR => lv_lconst C.1 C.2.1 d hv (k p e R s m args below meth c H locs cells slots mc ms ls C hl hP hS hR)
theorem e_iload_n {i : Fin 4} {x : Int32} (d : decode μ.2.1 pc = .ok (.iload_n i, 1)) (hi : lv[(i : Nat)]? = some (some (.int x))) (k : q_Ev l G μ fr lo cc ss (pc + 1) lv (.int x :: st) h N Q) : q_Ev l G μ fr lo cc ss pc lv (st) h N Q :=
  fun p e R s m args below meth c H locs cells slots mc ms ls C hl hP hS hR => lv_iload_n C.1 C.2.1 d rfl (hl.2.2 i _ hi).1 (k p e R s m args below meth c H locs cells slots mc ms ls C hl hP hS hR)
theorem e_iload {i : Nat} {x : Int32} (d : decode μ.2.1 pc = .ok (.iload i, 2)) (hi : lv[i]? = some (some (.int x))) (k : q_Ev l G μ fr lo cc ss (pc + 2) lv (.int x :: st) h N Q) : q_Ev l G μ fr lo cc ss pc lv (st) h N Q :=
  fun p e R s m args below meth c H locs cells slots mc ms ls C hl hP hS hR => lv_iload C.1 C.2.1 d (hl.2.2 i _ hi).1 (k p e R s m args below meth c H locs cells slots mc ms ls C hl hP hS hR)
theorem e_aload_n {i : Fin 4} {x : Nat} (d : decode μ.2.1 pc = .ok (.aload_n i, 1)) (hi : lv[(i : Nat)]? = some (some (.ref x))) (k : q_Ev l G μ fr lo cc ss (pc + 1) lv (.ref x :: st) h N Q) : q_Ev l G μ fr lo cc ss pc lv (st) h N Q :=
  fun p e R s m args below meth c H locs cells slots mc ms ls C hl hP hS hR => lv_aload_n C.1 C.2.1 d rfl (hl.2.2 i _ hi).1 (k p e R s m args below meth c H locs cells slots mc ms ls C hl hP hS hR)
theorem e_aload {i x : Nat} (d : decode μ.2.1 pc = .ok (.aload i, 2)) (hi : lv[i]? = some (some (.ref x))) (k : q_Ev l G μ fr lo cc ss (pc + 2) lv (.ref x :: st) h N Q) : q_Ev l G μ fr lo cc ss pc lv (st) h N Q :=
  fun p e R s m args below meth c H locs cells slots mc ms ls C hl hP hS hR => lv_aload C.1 C.2.1 d (hl.2.2 i _ hi).1 (k p e R s m args below meth c H locs cells slots mc ms ls C hl hP hS hR)
theorem e_istore_n {i : Fin 4} {x : Int32} (d : decode μ.2.1 pc = .ok (.istore_n i, 1)) (hi : (i : Nat) < μ.2.2.1) (k : q_Ev l G μ fr lo cc ss (pc + 1) (lv.set (i : Nat) (some (.int x))) st h N Q) : q_Ev l G μ fr lo cc ss pc lv (.int x :: st) h N Q :=
  fun p e R s m args below meth c H locs cells slots mc ms ls C hl hP hS hR => lv_istore_n C.1 C.2.1 d rfl hl.has hi rfl (fun ls2 h2 => k p e R s m args below meth c H locs cells slots mc ms ls2 C (hl.set rfl h2) hP hS hR)
theorem e_istore {i : Nat} {x : Int32} (d : decode μ.2.1 pc = .ok (.istore i, 2)) (hi : i < μ.2.2.1) (k : q_Ev l G μ fr lo cc ss (pc + 2) (lv.set i (some (.int x))) st h N Q) : q_Ev l G μ fr lo cc ss pc lv (.int x :: st) h N Q :=
  fun p e R s m args below meth c H locs cells slots mc ms ls C hl hP hS hR => lv_istore C.1 C.2.1 d hl.has hi rfl (fun ls2 h2 => k p e R s m args below meth c H locs cells slots mc ms ls2 C (hl.set rfl h2) hP hS hR)
theorem e_astore_n {i : Fin 4} {x : Nat} (d : decode μ.2.1 pc = .ok (.astore_n i, 1)) (hi : (i : Nat) < μ.2.2.1) (k : q_Ev l G μ fr lo cc ss (pc + 1) (lv.set (i : Nat) (some (.ref x))) st h N Q) : q_Ev l G μ fr lo cc ss pc lv (.ref x :: st) h N Q :=
  fun p e R s m args below meth c H locs cells slots mc ms ls C hl hP hS hR => lv_astore_n C.1 C.2.1 d rfl hl.has hi rfl (fun ls2 h2 => k p e R s m args below meth c H locs cells slots mc ms ls2 C (hl.set rfl h2) hP hS hR)
theorem e_astore {i x : Nat} (d : decode μ.2.1 pc = .ok (.astore i, 2)) (hi : i < μ.2.2.1) (k : q_Ev l G μ fr lo cc ss (pc + 2) (lv.set i (some (.ref x))) st h N Q) : q_Ev l G μ fr lo cc ss pc lv (.ref x :: st) h N Q :=
  fun p e R s m args below meth c H locs cells slots mc ms ls C hl hP hS hR => lv_astore C.1 C.2.1 d hl.has hi rfl (fun ls2 h2 => k p e R s m args below meth c H locs cells slots mc ms ls2 C (hl.set rfl h2) hP hS hR)
theorem e_iinc {i : Nat} {n : Int} {x v : Int32} (d : decode μ.2.1 pc = .ok (.iinc i n, 3)) (hx : lv[i]? = some (some (.int x))) (hv : x + Int32.ofInt n = v) (hi : i < μ.2.2.1) (k : q_Ev l G μ fr lo cc ss (pc + 3) (lv.set i (some (.int v))) st h N Q) : q_Ev l G μ fr lo cc ss pc lv st h N Q := by
  intro p e R s m args below meth c H locs cells slots mc ms ls C hl hP hS hR
  obtain ⟨j, hj⟩ := q_pr_at (G := G) hx
  exact lv_iinc C.1 C.2.1 d hl.has hj hv hi rfl (fun ls2 h2 => k p e R s m args below meth c H locs cells slots mc ms ls2 C (hl.set rfl h2) hP hS hR)
theorem e_iadd {x y : Int32} (d : decode μ.2.1 pc = .ok (.iadd, 1)) (k : q_Ev l G μ fr lo cc ss (pc + 1) lv (.int (x + y) :: st) h N Q) : q_Ev l G μ fr lo cc ss pc lv (.int y :: .int x :: st) h N Q :=
  fun p e R s m args below meth c H locs cells slots mc ms ls C hl hP hS hR => lv_iadd C.1 C.2.1 d (k p e R s m args below meth c H locs cells slots mc ms ls C hl hP hS hR)
theorem e_isub {x y : Int32} (d : decode μ.2.1 pc = .ok (.isub, 1)) (k : q_Ev l G μ fr lo cc ss (pc + 1) lv (.int (x - y) :: st) h N Q) : q_Ev l G μ fr lo cc ss pc lv (.int y :: .int x :: st) h N Q :=
  fun p e R s m args below meth c H locs cells slots mc ms ls C hl hP hS hR => lv_isub C.1 C.2.1 d (k p e R s m args below meth c H locs cells slots mc ms ls C hl hP hS hR)
theorem e_imul {x y : Int32} (d : decode μ.2.1 pc = .ok (.imul, 1)) (k : q_Ev l G μ fr lo cc ss (pc + 1) lv (.int (x * y) :: st) h N Q) : q_Ev l G μ fr lo cc ss pc lv (.int y :: .int x :: st) h N Q :=
  fun p e R s m args below meth c H locs cells slots mc ms ls C hl hP hS hR => lv_imul C.1 C.2.1 d (k p e R s m args below meth c H locs cells slots mc ms ls C hl hP hS hR)
theorem e_iand {x y : Int32} (d : decode μ.2.1 pc = .ok (.iand, 1)) (k : q_Ev l G μ fr lo cc ss (pc + 1) lv (.int (x &&& y) :: st) h N Q) : q_Ev l G μ fr lo cc ss pc lv (.int y :: .int x :: st) h N Q :=
  fun p e R s m args below meth c H locs cells slots mc ms ls C hl hP hS hR => lv_iand C.1 C.2.1 d (k p e R s m args below meth c H locs cells slots mc ms ls C hl hP hS hR)
theorem e_ior {x y : Int32} (d : decode μ.2.1 pc = .ok (.ior, 1)) (k : q_Ev l G μ fr lo cc ss (pc + 1) lv (.int (x ||| y) :: st) h N Q) : q_Ev l G μ fr lo cc ss pc lv (.int y :: .int x :: st) h N Q :=
  fun p e R s m args below meth c H locs cells slots mc ms ls C hl hP hS hR => lv_ior C.1 C.2.1 d (k p e R s m args below meth c H locs cells slots mc ms ls C hl hP hS hR)
theorem e_ixor {x y : Int32} (d : decode μ.2.1 pc = .ok (.ixor, 1)) (k : q_Ev l G μ fr lo cc ss (pc + 1) lv (.int (x ^^^ y) :: st) h N Q) : q_Ev l G μ fr lo cc ss pc lv (.int y :: .int x :: st) h N Q :=
  fun p e R s m args below meth c H locs cells slots mc ms ls C hl hP hS hR => lv_ixor C.1 C.2.1 d (k p e R s m args below meth c H locs cells slots mc ms ls C hl hP hS hR)
theorem e_ishl {x y : Int32} (d : decode μ.2.1 pc = .ok (.ishl, 1)) (k : q_Ev l G μ fr lo cc ss (pc + 1) lv (.int (x <<< (y &&& 31)) :: st) h N Q) : q_Ev l G μ fr lo cc ss pc lv (.int y :: .int x :: st) h N Q :=
  fun p e R s m args below meth c H locs cells slots mc ms ls C hl hP hS hR => lv_ishl C.1 C.2.1 d (k p e R s m args below meth c H locs cells slots mc ms ls C hl hP hS hR)
theorem e_idiv {x y : Int32} (d : decode μ.2.1 pc = .ok (.idiv, 1)) (hne : ¬ y = 0) (k : q_Ev l G μ fr lo cc ss (pc + 1) lv (.int (x / y) :: st) h N Q) : q_Ev l G μ fr lo cc ss pc lv (.int y :: .int x :: st) h N Q :=
  fun p e R s m args below meth c H locs cells slots mc ms ls C hl hP hS hR => lv_idiv C.1 C.2.1 d hne (k p e R s m args below meth c H locs cells slots mc ms ls C hl hP hS hR)
theorem e_irem {x y : Int32} (d : decode μ.2.1 pc = .ok (.irem, 1)) (hne : ¬ y = 0) (k : q_Ev l G μ fr lo cc ss (pc + 1) lv (.int (x - x / y * y) :: st) h N Q) : q_Ev l G μ fr lo cc ss pc lv (.int y :: .int x :: st) h N Q :=
  fun p e R s m args below meth c H locs cells slots mc ms ls C hl hP hS hR => lv_irem C.1 C.2.1 d hne (k p e R s m args below meth c H locs cells slots mc ms ls C hl hP hS hR)
theorem e_i2l {x : Int32} (d : decode μ.2.1 pc = .ok (.i2l, 1)) (k : q_Ev l G μ fr lo cc ss (pc + 1) lv (.long x.toInt64 :: st) h N Q) : q_Ev l G μ fr lo cc ss pc lv (.int x :: st) h N Q :=
  fun p e R s m args below meth c H locs cells slots mc ms ls C hl hP hS hR => lv_i2l C.1 C.2.1 d rfl (k p e R s m args below meth c H locs cells slots mc ms ls C hl hP hS hR)
theorem e_lcmp {x y : Int64} (d : decode μ.2.1 pc = .ok (.lcmp, 1)) (k : q_Ev l G μ fr lo cc ss (pc + 1) lv (.int (lg_cmp x y) :: st) h N Q) : q_Ev l G μ fr lo cc ss pc lv (.long y :: .long x :: st) h N Q :=
  fun p e R s m args below meth c H locs cells slots mc ms ls C hl hP hS hR => W.lcmp C.1 C.2.1 d (k p e R s m args below meth c H locs cells slots mc ms ls C hl hP hS hR)
theorem e_dup {v : Value} (d : decode μ.2.1 pc = .ok (.dup, 1)) (hv : v.category = 1) (k : q_Ev l G μ fr lo cc ss (pc + 1) lv (v :: v :: st) h N Q) : q_Ev l G μ fr lo cc ss pc lv (v :: st) h N Q :=
  fun p e R s m args below meth c H locs cells slots mc ms ls C hl hP hS hR => lv_dup C.1 C.2.1 d ((q_v_cat G v).trans hv) (k p e R s m args below meth c H locs cells slots mc ms ls C hl hP hS hR)
theorem e_dup2 {v w : Value} (d : decode μ.2.1 pc = .ok (.dup2, 1)) (hv : v.category = 1) (hw : w.category = 1) (k : q_Ev l G μ fr lo cc ss (pc + 1) lv (v :: w :: v :: w :: st) h N Q) : q_Ev l G μ fr lo cc ss pc lv (v :: w :: st) h N Q :=
  fun p e R s m args below meth c H locs cells slots mc ms ls C hl hP hS hR => lv_dup2_11 C.1 C.2.1 d ((q_v_cat G v).trans hv) ((q_v_cat G w).trans hw) (k p e R s m args below meth c H locs cells slots mc ms ls C hl hP hS hR)
theorem e_goto {off : Int} {tgt : Nat} (d : decode μ.2.1 pc = .ok (.goto off, 3)) (ht : (pc : Int) + off = (tgt : Int)) (k : q_Ev l G μ fr lo cc ss tgt lv st h N Q) : q_Ev l G μ fr lo cc ss pc lv st h N Q :=
  fun p e R s m args below meth c H locs cells slots mc ms ls C hl hP hS hR => lv_goto C.1 C.2.1 d ht (k p e R s m args below meth c H locs cells slots mc ms ls C hl hP hS hR)
theorem e_if_eq {x : Int32} {off : Int} {tgt : Nat} (d : decode μ.2.1 pc = .ok (.ifCond .eq off, 3)) (ht : (pc : Int) + off = (tgt : Int)) (kt : x = 0 → q_Ev l G μ fr lo cc ss tgt lv st h N Q) (kf : ¬ x = 0 → q_Ev l G μ fr lo cc ss (pc + 3) lv st h N Q) : q_Ev l G μ fr lo cc ss pc lv (.int x :: st) h N Q :=
  fun p e R s m args below meth c H locs cells slots mc ms ls C hl hP hS hR => lv_if_eq C.1 C.2.1 d ht (fun z => kt z p e R s m args below meth c H locs cells slots mc ms ls C hl hP hS hR) (fun z => kf z p e R s m args below meth c H locs cells slots mc ms ls C hl hP hS hR)
theorem e_if_ne {x : Int32} {off : Int} {tgt : Nat} (d : decode μ.2.1 pc = .ok (.ifCond .ne off, 3)) (ht : (pc : Int) + off = (tgt : Int)) (kt : ¬ x = 0 → q_Ev l G μ fr lo cc ss tgt lv st h N Q) (kf : x = 0 → q_Ev l G μ fr lo cc ss (pc + 3) lv st h N Q) : q_Ev l G μ fr lo cc ss pc lv (.int x :: st) h N Q :=
  fun p e R s m args below meth c H locs cells slots mc ms ls C hl hP hS hR => lv_if_ne C.1 C.2.1 d ht (fun z => kt z p e R s m args below meth c H locs cells slots mc ms ls C hl hP hS hR) (fun z => kf z p e R s m args below meth c H locs cells slots mc ms ls C hl hP hS hR)
theorem e_if_lt {x : Int32} {off : Int} {tgt : Nat} (d : decode μ.2.1 pc = .ok (.ifCond .lt off, 3)) (ht : (pc : Int) + off = (tgt : Int)) (kt : x < 0 → q_Ev l G μ fr lo cc ss tgt lv st h N Q) (kf : ¬ x < 0 → q_Ev l G μ fr lo cc ss (pc + 3) lv st h N Q) : q_Ev l G μ fr lo cc ss pc lv (.int x :: st) h N Q :=
  fun p e R s m args below meth c H locs cells slots mc ms ls C hl hP hS hR => lv_if_lt C.1 C.2.1 d ht (fun z => kt z p e R s m args below meth c H locs cells slots mc ms ls C hl hP hS hR) (fun z => kf z p e R s m args below meth c H locs cells slots mc ms ls C hl hP hS hR)
theorem e_if_ge {x : Int32} {off : Int} {tgt : Nat} (d : decode μ.2.1 pc = .ok (.ifCond .ge off, 3)) (ht : (pc : Int) + off = (tgt : Int)) (kt : 0 ≤ x → q_Ev l G μ fr lo cc ss tgt lv st h N Q) (kf : ¬ 0 ≤ x → q_Ev l G μ fr lo cc ss (pc + 3) lv st h N Q) : q_Ev l G μ fr lo cc ss pc lv (.int x :: st) h N Q :=
  fun p e R s m args below meth c H locs cells slots mc ms ls C hl hP hS hR => lv_if_ge C.1 C.2.1 d ht (fun z => kt z p e R s m args below meth c H locs cells slots mc ms ls C hl hP hS hR) (fun z => kf z p e R s m args below meth c H locs cells slots mc ms ls C hl hP hS hR)
theorem e_if_gt {x : Int32} {off : Int} {tgt : Nat} (d : decode μ.2.1 pc = .ok (.ifCond .gt off, 3)) (ht : (pc : Int) + off = (tgt : Int)) (kt : 0 < x → q_Ev l G μ fr lo cc ss tgt lv st h N Q) (kf : ¬ 0 < x → q_Ev l G μ fr lo cc ss (pc + 3) lv st h N Q) : q_Ev l G μ fr lo cc ss pc lv (.int x :: st) h N Q :=
  fun p e R s m args below meth c H locs cells slots mc ms ls C hl hP hS hR => lv_if_gt C.1 C.2.1 d ht (fun z => kt z p e R s m args below meth c H locs cells slots mc ms ls C hl hP hS hR) (fun z => kf z p e R s m args below meth c H locs cells slots mc ms ls C hl hP hS hR)
theorem e_if_le {x : Int32} {off : Int} {tgt : Nat} (d : decode μ.2.1 pc = .ok (.ifCond .le off, 3)) (ht : (pc : Int) + off = (tgt : Int)) (kt : x ≤ 0 → q_Ev l G μ fr lo cc ss tgt lv st h N Q) (kf : ¬ x ≤ 0 → q_Ev l G μ fr lo cc ss (pc + 3) lv st h N Q) : q_Ev l G μ fr lo cc ss pc lv (.int x :: st) h N Q :=
  fun p e R s m args below meth c H locs cells slots mc ms ls C hl hP hS hR => lv_if_le C.1 C.2.1 d ht (fun z => kt z p e R s m args below meth c H locs cells slots mc ms ls C hl hP hS hR) (fun z => kf z p e R s m args below meth c H locs cells slots mc ms ls C hl hP hS hR)
theorem e_icmp_eq {x y : Int32} {off : Int} {tgt : Nat} (d : decode μ.2.1 pc = .ok (.if_icmp .eq off, 3)) (ht : (pc : Int) + off = (tgt : Int)) (kt : x = y → q_Ev l G μ fr lo cc ss tgt lv st h N Q) (kf : ¬ x = y → q_Ev l G μ fr lo cc ss (pc + 3) lv st h N Q) : q_Ev l G μ fr lo cc ss pc lv (.int y :: .int x :: st) h N Q :=
  fun p e R s m args below meth c H locs cells slots mc ms ls C hl hP hS hR => lv_icmp_eq C.1 C.2.1 d ht (fun z => kt z p e R s m args below meth c H locs cells slots mc ms ls C hl hP hS hR) (fun z => kf z p e R s m args below meth c H locs cells slots mc ms ls C hl hP hS hR)
theorem e_icmp_ne {x y : Int32} {off : Int} {tgt : Nat} (d : decode μ.2.1 pc = .ok (.if_icmp .ne off, 3)) (ht : (pc : Int) + off = (tgt : Int)) (kt : ¬ x = y → q_Ev l G μ fr lo cc ss tgt lv st h N Q) (kf : x = y → q_Ev l G μ fr lo cc ss (pc + 3) lv st h N Q) : q_Ev l G μ fr lo cc ss pc lv (.int y :: .int x :: st) h N Q :=
  fun p e R s m args below meth c H locs cells slots mc ms ls C hl hP hS hR => lv_icmp_ne C.1 C.2.1 d ht (fun z => kt z p e R s m args below meth c H locs cells slots mc ms ls C hl hP hS hR) (fun z => kf z p e R s m args below meth c H locs cells slots mc ms ls C hl hP hS hR)
theorem e_icmp_lt {x y : Int32} {off : Int} {tgt : Nat} (d : decode μ.2.1 pc = .ok (.if_icmp .lt off, 3)) (ht : (pc : Int) + off = (tgt : Int)) (kt : x < y → q_Ev l G μ fr lo cc ss tgt lv st h N Q) (kf : ¬ x < y → q_Ev l G μ fr lo cc ss (pc + 3) lv st h N Q) : q_Ev l G μ fr lo cc ss pc lv (.int y :: .int x :: st) h N Q :=
  fun p e R s m args below meth c H locs cells slots mc ms ls C hl hP hS hR => lv_icmp_lt C.1 C.2.1 d ht (fun z => kt z p e R s m args below meth c H locs cells slots mc ms ls C hl hP hS hR) (fun z => kf z p e R s m args below meth c H locs cells slots mc ms ls C hl hP hS hR)
theorem e_icmp_ge {x y : Int32} {off : Int} {tgt : Nat} (d : decode μ.2.1 pc = .ok (.if_icmp .ge off, 3)) (ht : (pc : Int) + off = (tgt : Int)) (kt : y ≤ x → q_Ev l G μ fr lo cc ss tgt lv st h N Q) (kf : ¬ y ≤ x → q_Ev l G μ fr lo cc ss (pc + 3) lv st h N Q) : q_Ev l G μ fr lo cc ss pc lv (.int y :: .int x :: st) h N Q :=
  fun p e R s m args below meth c H locs cells slots mc ms ls C hl hP hS hR => lv_icmp_ge C.1 C.2.1 d ht (fun z => kt z p e R s m args below meth c H locs cells slots mc ms ls C hl hP hS hR) (fun z => kf z p e R s m args below meth c H locs cells slots mc ms ls C hl hP hS hR)
theorem e_icmp_gt {x y : Int32} {off : Int} {tgt : Nat} (d : decode μ.2.1 pc = .ok (.if_icmp .gt off, 3)) (ht : (pc : Int) + off = (tgt : Int)) (kt : y < x → q_Ev l G μ fr lo cc ss tgt lv st h N Q) (kf : ¬ y < x → q_Ev l G μ fr lo cc ss (pc + 3) lv st h N Q) : q_Ev l G μ fr lo cc ss pc lv (.int y :: .int x :: st) h N Q :=
  fun p e R s m args below meth c H locs cells slots mc ms ls C hl hP hS hR => lv_icmp_gt C.1 C.2.1 d ht (fun z => kt z p e R s m args below meth c H locs cells slots mc ms ls C hl hP hS hR) (fun z => kf z p e R s m args below meth c H locs cells slots mc ms ls C hl hP hS hR)
theorem e_icmp_le {x y : Int32} {off : Int} {tgt : Nat} (d : decode μ.2.1 pc = .ok (.if_icmp .le off, 3)) (ht : (pc : Int) + off = (tgt : Int)) (kt : x ≤ y → q_Ev l G μ fr lo cc ss tgt lv st h N Q) (kf : ¬ x ≤ y → q_Ev l G μ fr lo cc ss (pc + 3) lv st h N Q) : q_Ev l G μ fr lo cc ss pc lv (.int y :: .int x :: st) h N Q :=
  fun p e R s m args below meth c H locs cells slots mc ms ls C hl hP hS hR => lv_icmp_le C.1 C.2.1 d ht (fun z => kt z p e R s m args below meth c H locs cells slots mc ms ls C hl hP hS hR) (fun z => kf z p e R s m args below meth c H locs cells slots mc ms ls C hl hP hS hR)
theorem e_tableOut {dflt a b : Int} {offs : Array Int} {len : Nat} {x : Int32} {tgt : Nat} (d : decode μ.2.1 pc = .ok (.tableswitch dflt a b offs, len)) (hx : x.toInt < a ∨ b < x.toInt) (ht : (pc : Int) + dflt = (tgt : Int)) (k : q_Ev l G μ fr lo cc ss tgt lv st h N Q) : q_Ev l G μ fr lo cc ss pc lv (.int x :: st) h N Q :=
  fun p e R s m args below meth c H locs cells slots mc ms ls C hl hP hS hR => lv_tableOut C.1 C.2.1 d hx ht (k p e R s m args below meth c H locs cells slots mc ms ls C hl hP hS hR)
theorem e_tableIn {dflt a b : Int} {offs : Array Int} {len : Nat} {x : Int32} {off : Int} {tgt : Nat} (d : decode μ.2.1 pc = .ok (.tableswitch dflt a b offs, len)) (h1 : ¬ x.toInt < a) (h2 : ¬ b < x.toInt) (ho : offs[(x.toInt - a).toNat]? = some off) (ht : (pc : Int) + off = (tgt : Int)) (k : q_Ev l G μ fr lo cc ss tgt lv st h N Q) : q_Ev l G μ fr lo cc ss pc lv (.int x :: st) h N Q :=
  fun p e R s m args below meth c H locs cells slots mc ms ls C hl hP hS hR => lv_tableIn C.1 C.2.1 d h1 h2 ho ht (k p e R s m args below meth c H locs cells slots mc ms ls C hl hP hS hR)
theorem e_lookup {dflt : Int} {ps : Array (Int × Int)} {len : Nat} {x : Int32} {off : Int} {tgt : Nat} (d : decode μ.2.1 pc = .ok (.lookupswitch dflt ps, len)) (hp : (ps.toList.zip (ps.toList.drop 1)).all (fun (a, next) => a.1 < next.1) = true) (ho : Op.lookupswitch.offset ps.toList dflt x.toInt = off) (ht : (pc : Int) + off = (tgt : Int)) (k : q_Ev l G μ fr lo cc ss tgt lv st h N Q) : q_Ev l G μ fr lo cc ss pc lv (.int x :: st) h N Q :=
  fun p e R s m args below meth c H locs cells slots mc ms ls C hl hP hS hR => lv_lookup C.1 C.2.1 d hp ho ht (k p e R s m args below meth c H locs cells slots mc ms ls C hl hP hS hR)
theorem e_iret {v : Int32} (d : decode μ.2.1 pc = .ok (.ireturn, 1)) (hr : μ.2.2.2.1 = some .int) (hq : Q (.inl (some (.int v))) h N) : q_Ev l G μ fr lo cc ss pc lv [.int v] h N Q := by
  intro p e R s m args below meth c H locs cells slots mc ms ls C hl hP hS hR
  refine W.widen (k := mc) (n := ms) (by omega) (by omega) (vx_ret ?_)
  exact W.iret (v := v) C.1 C.2.1 (C.2.2.1.trans hr) (fun t ht hW => ⟨some (.int v), h, N, rfl, hq, by rw [ht]; exact hP, hS.F ht⟩) (fun q hq => hS.2.2 q hq) d C.2.2.2.2.2.2.1
theorem e_vret (d : decode μ.2.1 pc = .ok (.return_, 1)) (hr : μ.2.2.2.1 = none) (hq : Q (.inl (none)) h N) : q_Ev l G μ fr lo cc ss pc lv [] h N Q := by
  intro p e R s m args below meth c H locs cells slots mc ms ls C hl hP hS hR
  refine W.widen (k := mc) (n := ms) (by omega) (by omega) (vx_ret ?_)
  exact W.vret C.1 C.2.1 (C.2.2.1.trans hr) (fun t ht hW => ⟨none, h, N, rfl, hq, by rw [ht]; exact hP, hS.F ht⟩) (fun q hq => hS.2.2 q hq) d C.2.2.2.2.2.2.1
theorem e_zret {v : Int32} (d : decode μ.2.1 pc = .ok (.ireturn, 1)) (hr : μ.2.2.2.1 = some .boolean) (hn : narrow .boolean (.int v) = .int v) (hq : Q (.inl (some (.int v))) h N) : q_Ev l G μ fr lo cc ss pc lv [.int v] h N Q := by
  intro p e R s m args below meth c H locs cells slots mc ms ls C hl hP hS hR
  refine W.widen (k := mc) (n := ms) (by omega) (by omega) (vx_ret ?_)
  exact W.zret (v := v) C.1 C.2.1 (C.2.2.1.trans hr) hn (fun t ht hW => ⟨some (.int v), h, N, rfl, hq, by rw [ht]; exact hP, hS.F ht⟩) (fun q hq => hS.2.2 q hq) d C.2.2.2.2.2.2.1
theorem e_aret {a : Nat} {cn : String} (d : decode μ.2.1 pc = .ok (.areturn, 1)) (hr : μ.2.2.2.1 = some (.object cn)) (hq : Q (.inl (some (.ref a))) h N) : q_Ev l G μ fr lo cc ss pc lv [.ref a] h N Q := by
  intro p e R s m args below meth c H locs cells slots mc ms ls C hl hP hS hR
  refine W.widen (k := mc) (n := ms) (by omega) (by omega) (vx_ret ?_)
  exact W.aret (v := .ref (q_ad G a)) C.1 C.2.1 (C.2.2.1.trans hr) (Or.inl ⟨_, rfl⟩) (Or.inr ⟨_, rfl⟩) (fun t ht hW => ⟨some (.ref a), h, N, rfl, hq, by rw [ht]; exact hP, hS.F ht⟩) (fun q hq => hS.2.2 q hq) d C.2.2.2.2.2.2.1
theorem q_Ev.mono {Q' : q_Q} (k : q_Ev l G μ fr lo cc ss pc lv st h N Q') (hq : ∀ o h N, Q' o h N → Q o h N) : q_Ev l G μ fr lo cc ss pc lv st h N Q := by
  intro p e R s m args below meth c H locs cells slots mc ms ls C hl hP hS hR
  intro T hT X
  obtain ⟨t, a1, o, b1, b2, b3⟩ := k p e R s m args below meth c H locs cells slots mc ms ls C hl hP hS hR T hT X
  refine ⟨t, a1, o, b1, b2, ?_⟩
  rcases b3 with ⟨⟨r, h', N', c1, c2, c3⟩, c4⟩ | ⟨q, c1, E, ce, L, ⟨h', N', c2, c3⟩, c4⟩
  · exact Or.inl ⟨⟨r, h', N', c1, hq _ _ _ c2, c3⟩, c4⟩
  · exact Or.inr ⟨q, c1, E, ce, L, ⟨h', N', hq _ _ _ c2, c3⟩, c4⟩
theorem q_Ev.room {fr' lo' cc' ss' : Nat} (k : q_Ev l G μ fr' lo' cc' ss' pc lv st h N Q) (h1 : fr' ≤ fr) (h2 : lo' ≤ lo) (h3 : cc' ≤ cc) (h4 : ss' ≤ ss) : q_Ev l G μ fr lo cc ss pc lv st h N Q := by
  intro p e R s m args below meth c H locs cells slots mc ms ls C hl hP hS hR
  exact k p e R s m args below meth c H locs cells slots mc ms ls C hl hP hS (by omega)
/-- fewer locals are known -/
theorem q_Ev.loc {lv' : List (Option Value)} (k : q_Ev l G μ fr lo cc ss pc lv' st h N Q) (hs : ∀ (i : Nat) (v : Value), lv'[i]? = some (some v) → lv[i]? = some (some v)) : q_Ev l G μ fr lo cc ss pc lv st h N Q := by
  intro p e R s m args below meth c H locs cells slots mc ms ls C hl hP hS hR
  exact k p e R s m args below meth c H locs cells slots mc ms ls C ⟨hl.1, hl.2.1, fun i v hi => hl.2.2 i v (hs i v hi)⟩ hP hS hR
end QR

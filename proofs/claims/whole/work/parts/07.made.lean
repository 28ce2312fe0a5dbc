/-! THE LOGIC'S ROWS for new cells, calls, throws; a method's contract out of its body -/
section QN
variable {l : Launch} {G : q_G} {μ : q_M} {fr lo cc ss pc N : Nat} {lv : List (Option Value)} {st : List Value} {h : q_H} {Q : q_Q}
theorem e_newI {n : Int32} {n' cc' ss' : Nat} (d : decode μ.2.1 pc = .ok (.newarray .int, 2)) (hw : Cond.arrayClass .int ∈ q_good) (hn : ¬ n < 0) (hN : n.toNatClampNeg = n') (hb9 : n' ≤ 1000000) (h1 : cc' + 1 ≤ cc) (h2 : ss' + n' ≤ ss) (kk : q_Ev l G μ fr lo cc' ss' (pc + 2) lv (.ref (N + 1) :: st) (q_up h (N + 1) (q_ai n' (fun _ => 0))) (N + 1) Q) : q_Ev l G μ fr lo cc ss pc lv (.int n :: st) h N Q := by
  intro p e R s m args below meth c H locs cells slots mc ms ls C hl hP hS hR
  obtain ⟨hx, hb, hr, hml, hown, hts, hlk, htb, hnm, htr, hK⟩ := id C
  refine va_newaK (atype := .int) (h := H.size) hx hb (hts _ hw) rfl d rfl hn hN (by show n' * 4 ≤ _; omega) (by omega) (by omega) rfl fun H1 cA e1 z o1 _ f1 => ?_
  have hA : G.2.1 0 = cA := Option.some.inj ((hK.1.2 0 _ rfl).2.symm.trans f1)
  refine W.eq (g2 := F0 m (pc + 2) ls ((.ref (N + 1) :: st : List Value).map (q_v G))) (by show _ = _; rw [hP.1]; rfl) ?_
  exact kk p e R s m args below meth c H1 locs (cells + 1) (slots + n') mc ms ls C hl (hP.new z (by show H1[H.size]? = some (arrV (G.2.1 0) n' (fun _ => .int 0)); rw [e1, hA]; rfl) o1) (q_S.grow hS z o1) (by omega)
theorem e_newZ {n : Int32} {n' cc' ss' : Nat} (d : decode μ.2.1 pc = .ok (.newarray .boolean, 2)) (hw : Cond.arrayClass .boolean ∈ q_good) (hn : ¬ n < 0) (hN : n.toNatClampNeg = n') (hb9 : n' ≤ 1000000) (h1 : cc' + 1 ≤ cc) (h2 : ss' + n' ≤ ss) (kk : q_Ev l G μ fr lo cc' ss' (pc + 2) lv (.ref (N + 1) :: st) (q_up h (N + 1) (q_az n' (fun _ => 0))) (N + 1) Q) : q_Ev l G μ fr lo cc ss pc lv (.int n :: st) h N Q := by
  intro p e R s m args below meth c H locs cells slots mc ms ls C hl hP hS hR
  obtain ⟨hx, hb, hr, hml, hown, hts, hlk, htb, hnm, htr, hK⟩ := id C
  refine va_newaK (atype := .boolean) (h := H.size) hx hb (hts _ hw) rfl d rfl hn hN (by show n' * 1 ≤ _; omega) (by omega) (by omega) rfl fun H1 cA e1 z o1 _ f1 => ?_
  have hA : G.2.1 2 = cA := Option.some.inj ((hK.1.2 2 _ rfl).2.symm.trans f1)
  refine W.eq (g2 := F0 m (pc + 2) ls ((.ref (N + 1) :: st : List Value).map (q_v G))) (by show _ = _; rw [hP.1]; rfl) ?_
  exact kk p e R s m args below meth c H1 locs (cells + 1) (slots + n') mc ms ls C hl (hP.new z (by show H1[H.size]? = some (arrV (G.2.1 2) n' (fun _ => .int 0)); rw [e1, hA]; rfl) o1) (q_S.grow hS z o1) (by omega)
theorem e_newL {n : Int32} {n' cc' ss' : Nat} (d : decode μ.2.1 pc = .ok (.newarray .long, 2)) (hw : Cond.arrayClass .long ∈ q_good) (hn : ¬ n < 0) (hN : n.toNatClampNeg = n') (hb9 : n' ≤ 1000000) (h1 : cc' + 1 ≤ cc) (h2 : ss' + n' ≤ ss) (kk : q_Ev l G μ fr lo cc' ss' (pc + 2) lv (.ref (N + 1) :: st) (q_up h (N + 1) (q_al n' (fun _ => 0))) (N + 1) Q) : q_Ev l G μ fr lo cc ss pc lv (.int n :: st) h N Q := by
  intro p e R s m args below meth c H locs cells slots mc ms ls C hl hP hS hR
  obtain ⟨hx, hb, hr, hml, hown, hts, hlk, htb, hnm, htr, hK⟩ := id C
  refine va_newaK (atype := .long) (h := H.size) hx hb (hts _ hw) rfl d rfl hn hN (by show n' * 8 ≤ _; omega) (by omega) (by omega) rfl fun H1 cA e1 z o1 _ f1 => ?_
  have hA : G.2.1 1 = cA := Option.some.inj ((hK.1.2 1 _ rfl).2.symm.trans f1)
  refine W.eq (g2 := F0 m (pc + 2) ls ((.ref (N + 1) :: st : List Value).map (q_v G))) (by show _ = _; rw [hP.1]; rfl) ?_
  exact kk p e R s m args below meth c H1 locs (cells + 1) (slots + n') mc ms ls C hl (hP.new z (by show H1[H.size]? = some (arrV (G.2.1 1) n' (fun _ => .long 0)); rw [e1, hA]; rfl) o1) (q_S.grow hS z o1) (by omega)
theorem e_newR {n : Int32} {t idx n' cc' ss' : Nat} {C0 : String} (d : decode μ.2.1 pc = .ok (.anewarray idx, 3)) (hw : Cond.classLink μ.1.cls idx C0 ∈ q_good) (hao : C0 ∈ q_ao) (ht : ∀ G : q_G, (q_ty G)[t]? = some (G.2.1 t, .object C0)) (hn : ¬ n < 0) (hN : n.toNatClampNeg = n') (hb9 : n' ≤ 1000000) (h1 : cc' + 1 ≤ cc) (h2 : ss' + n' ≤ ss) (kk : q_Ev l G μ fr lo cc' ss' (pc + 3) lv (.ref (N + 1) :: st) (q_up h (N + 1) (q_ar t n' (fun _ => none))) (N + 1) Q) : q_Ev l G μ fr lo cc ss pc lv (.int n :: st) h N Q := by
  intro p e R s m args below meth c H locs cells slots mc ms ls C hl hP hS hR
  obtain ⟨hx, hb, hr, hml, hown, hts, hlk, htb, hnm, htr, hK⟩ := id C
  subst hN
  refine W.anew hx hb hown (hts _ hw) (va_AO.use (hK.2.2.2.2.2.2.2.2.2 C0 hao)) rfl d rfl hn (by omega) (by omega) (by omega) fun cA kA comp f1 f2 f3 f4 => ?_
  generalize hH1 : H.push ({ cls := cA, slots := Array.replicate n.toNatClampNeg .null, vm := .none } : Cell) = H1
  have z1 : H1.size = H.size + 1 := by rw [← hH1, Array.size_push]
  have e1 : H1[H.size]? = some (arrV cA n.toNatClampNeg (fun _ => .null)) := by rw [← hH1, Array.getElem?_push_size, ← arrV_new]
  have o1 : ∀ q : Nat, q < H.size → H1[q]? = H[q]? := fun q hq => by rw [← hH1, Array.getElem?_push, if_neg (Nat.ne_of_lt hq)]
  have hA : G.2.1 t = cA := by
    obtain ⟨kA2, comp2, k1, k2, k3, k4⟩ := (hK.1.2 t _ (ht G)).2
    exact Option.some.inj (k4.symm.trans f1)
  refine W.eq (g2 := F0 m (pc + 3) ls ((.ref (N + 1) :: st : List Value).map (q_v G))) (by show _ = _; rw [hP.1]; rfl) ?_
  exact kk p e R s m args below meth c H1 locs (cells + 1) (slots + n.toNatClampNeg) mc ms ls C hl (hP.new z1 (by show H1[H.size]? = some (arrV (G.2.1 t) n.toNatClampNeg (fun _ => .null)); rw [e1, hA]) o1) (q_S.grow hS z1 o1) (by omega)
/-- 'new' by the place in a class's pool: class ci of n fields, which begin as fs -/
def q_N (own : String) (idx ci n : Nat) (fs : List Value) : Prop := ∃ (C : String) (T : u_T) (ty0 : Nat → FieldType), q_cl[ci]? = some (C, T, n) ∧ (∀ w ∈ u_ws C T n, w ∈ q_good) ∧ (∀ j, j < n → parseFieldDescriptor (T j).2.2.1 = some (ty0 j)) ∧ Cond.classLink own idx C ∈ q_good ∧ Cond.instantiable C n ∈ q_good ∧ Cond.initialized C ∈ q_good ∧ (∀ j, j < n → defaultValue (ty0 j) = vp_V fs j) ∧ ∀ G : q_G, fs.map (q_v G) = fs
theorem e_new {idx ci n cc' ss' : Nat} {fs : List Value} (d : decode μ.2.1 pc = .ok (.new idx, 3)) (hf : q_N μ.1.cls idx ci n fs) (h1 : cc' + 1 ≤ cc) (h2 : ss' + n ≤ ss) (kk : q_Ev l G μ fr lo cc' ss' (pc + 3) lv (.ref (N + 1) :: st) (q_up h (N + 1) (.inr (ci, fs))) (N + 1) Q) : q_Ev l G μ fr lo cc ss pc lv st h N Q := by
  intro p e R s m args below meth c H locs cells slots mc ms ls C hl hP hS hR
  obtain ⟨Cn, T, ty0, f1, f2, f3, f4, f5, f6, f7, f8⟩ := hf
  obtain ⟨hx, hb, hr, hml, hown, hts, hlk, htb, hnm, htr, hK⟩ := id C
  have hKn := hK.1.1 ci _ f1
  refine W.newcK (h := H.size) hx hb hown (hts _ f4) (hts _ f5) (hts _ f6) rfl d (by omega) (by omega) hKn.2.1 rfl fun H1 kC hkC e1 z1 o1 => ?_
  refine W.eq (g2 := F0 m (pc + 3) ls ((.ref (N + 1) :: st : List Value).map (q_v G))) (by show _ = _; rw [hP.1]; rfl) ?_
  refine kk p e R s m args below meth c H1 locs (cells + 1) (slots + n) mc ms ls C hl (hP.new z1 ⟨_, f1, ?_⟩ o1) (q_S.grow hS z1 o1) (by omega)
  show t_OB H.size _ _ _ H1 (vp_V (fs.map (q_v G)))
  rw [f8 G]
  exact (u_born ty0 hts f2 hKn hkC e1 f3).to f7
theorem q_cats (G : q_G) (st : List Value) : ((st.map (q_v G)).map fun v => v.category).sum = (st.map fun v => v.category).sum := by
  rw [List.map_map]
  congr 1
  apply List.map_congr_left
  intro v _
  exact q_v_cat G v
theorem e_objInit {idx a : Nat} (d : decode μ.2.1 pc = .ok (.invokespecial idx, 3)) (hw : Cond.methodLink μ.1.cls idx objectInit ∈ q_good) (hw2 : Cond.instanceMethod objectInit ∈ q_good) (hw3 : Cond.code objectInit ⟨#[0xb1]⟩ 1 none ∈ q_good) (hfr : 1 ≤ fr) (hlo : (st.map fun v => v.category).sum + 12 ≤ lo) (kk : q_Ev l G μ fr lo cc ss (pc + 3) lv st h N Q) : q_Ev l G μ fr lo cc ss pc lv (.ref a :: st) h N Q := by
  intro p e R s m args below meth c H locs cells slots mc ms ls C hl hP hS hR
  obtain ⟨hx, hb, hr, hml, hown, hts, hlk, htb, hnm, htr, hK⟩ := id C
  refine W.objInit (rest := st.map (q_v G)) hx hb hown (hts _ hw) (hts _ hw2) (hts _ hw3) rfl (by rw [hml]; exact hl.1) rfl d (by omega) ?_ (kk p e R s m args below meth c H locs cells slots mc ms ls C hl hP hS hR)
  rw [q_cats]
  show 2 * 0 + _ + 12 ≤ _
  omega
end QN
/-- the locals at a method's entry -/
def q_in0 (av : List Value) (n : Nat) : List (Option Value) := av.map some ++ List.replicate (n - av.length) none
theorem q_args_mem (G : q_G) : ∀ (av : List Value) (i0 i : Nat) (v : Value), (∀ v ∈ av, v.category = 1) → av[i]? = some v → (i0 + i, q_v G v) ∈ lv_args i0 (av.map (q_v G)) := by
  intro av
  induction av with
  | nil => intro i0 i v _ h; simp at h
  | cons a r ih =>
    intro i0 i v hc h
    have h1 : ¬ (q_v G a).category = 2 := by rw [q_v_cat, hc a List.mem_cons_self]; decide
    simp only [List.map_cons, lv_args, if_neg h1]
    cases i with
    | zero =>
      simp at h
      subst h
      exact List.mem_cons_self
    | succ i =>
      have := ih (i0 + 1) i v (fun w hw => hc w (List.mem_cons_of_mem _ hw)) (by simpa using h)
      rw [show i0 + (i + 1) = i0 + 1 + i by omega]
      exact List.mem_cons_of_mem _ this
theorem q_sl_len (G : q_G) (av : List Value) (hc : ∀ v ∈ av, v.category = 1) : (lg_sl (av.map (q_v G))).length = av.length := by
  induction av with
  | nil => rfl
  | cons a r ih =>
    have h1 : ¬ (q_v G a).category = 2 := by rw [q_v_cat, hc a List.mem_cons_self]; decide
    have := ih (fun w hw => hc w (List.mem_cons_of_mem _ hw))
    simp only [lg_sl, List.map_cons, List.flatMap_cons, if_neg h1, List.length_append, List.length_cons, List.length_nil] at this ⊢
    omega
theorem q_entry {G : q_G} {av : List Value} {n : Nat} (hc : ∀ v ∈ av, v.category = 1) (hn : av.length ≤ n) : q_lv G ((lg_sl (av.map (q_v G)) ++ List.replicate (n - (lg_sl (av.map (q_v G))).length) Slot.unset).toArray) n (q_in0 av n) := by
  have hl := lv_entry (av.map (q_v G)) (n := n) (by rw [q_sl_len G av hc]; exact hn)
  refine ⟨hl.1, hl.2.1, fun i v hi => ?_⟩
  unfold q_in0 at hi
  have hia : av[i]? = some v := by
    by_cases c : i < av.length
    · rw [List.getElem?_append_left (by simpa using c)] at hi
      simpa using hi
    · rw [List.getElem?_append_right (by simpa using Nat.not_lt.mp c)] at hi
      have := List.mem_of_getElem? hi
      simp at this
  refine ⟨?_, hc v (List.mem_of_getElem? hia)⟩
  have := hl.2.2 _ (q_args_mem G av 0 i v hc hia)
  simpa using this
theorem q_Met.mk {l : Launch} {G : q_G} {μ : q_M} {fr lo cc ss N : Nat} {av : List Value} {h : q_H} {Q : q_Q} (htr : l.stackTraces = false) (hy : plainName μ.1.cls = true) (hh : μ.2.2.2.2 = []) (hc : ∀ v ∈ av, v.category = 1) (hn : av.length ≤ μ.2.2.1) (k : q_Ev l G μ fr lo cc ss 0 (q_in0 av μ.2.2.1) [] h N Q) : q_Met l G μ fr lo cc ss av h N Q := by
  unfold q_Met
  have hcw : q_cw μ = .code μ.1 μ.2.1 μ.2.2.1 μ.2.2.2.1 := by unfold q_cw; rw [hh]
  rw [hcw]
  refine vx_ofW (cc := μ.2.1) (maxL := μ.2.2.1) (ret := μ.2.2.2.1) hy rfl ?_
  intro p e s m args below meth c s₁ B hml hne hv
  obtain ⟨rfl, hP, hK⟩ := hv
  have hts := atoms_spec B.pre
  have hte : c.exceptionTable.toList = tableOf μ.2.2.2.2 := by
    rw [hh]
    cases hx : c.exceptionTable.toList with
    | nil => rfl
    | cons x r => exact absurd (by rw [hx]; exact List.mem_cons_self) (hne x)
  rw [lg_entry_eq]
  exact k p e _ s m _ below meth c s.heap [] 0 0 cc ss _ ⟨B.exec, B.bytes, B.returns, hml, findClass_of_methodNamed B.named, fun w hw => hts w (List.mem_cons_of_mem _ hw), B.notSynchronized, hte, (name_of_methodNamed B.named B.method).1, htr, hK⟩ (q_entry hc hn) hP va_S.rf ⟨Nat.le_refl _, Nat.le_refl _, Nat.le_of_eq (Nat.zero_add _), Nat.le_of_eq (Nat.zero_add _), Nat.le_of_eq (Nat.zero_add _), Nat.le_of_eq (Nat.zero_add _)⟩
theorem q_Met.mkH {l : Launch} {G : q_G} {μ : q_M} {fr lo cc ss N : Nat} {av : List Value} {h : q_H} {Q : q_Q} {x0 : Nat × Nat × Nat × Nat} {r0 : List (Nat × Nat × Nat × Nat)} (htr : l.stackTraces = false) (hy : plainName μ.1.cls = true) (hh : μ.2.2.2.2 = x0 :: r0) (hc : ∀ v ∈ av, v.category = 1) (hn : av.length ≤ μ.2.2.1) (k : q_Ev l G μ fr lo cc ss 0 (q_in0 av μ.2.2.1) [] h N Q) : q_Met l G μ fr lo cc ss av h N Q := by
  unfold q_Met
  have hcw : q_cw μ = .codeWith μ.1 μ.2.1 μ.2.2.1 μ.2.2.2.1 (x0 :: r0) := by unfold q_cw; rw [hh]
  rw [hcw]
  refine vx_ofWH (cc := μ.2.1) (maxL := μ.2.2.1) (ret := μ.2.2.2.1) (hh := x0 :: r0) hy rfl ?_
  intro p e s m args below meth c s₁ B hml hv
  obtain ⟨rfl, hP, hK⟩ := hv
  have hts := atoms_spec B.pre
  have hte : c.exceptionTable.toList = tableOf μ.2.2.2.2 := by
    rw [hh]
    exact vx_table (x := μ.1) B (hts _ List.mem_cons_self)
  rw [lg_entry_eq]
  exact k p e _ s m _ below meth c s.heap [] 0 0 cc ss _ ⟨B.exec, B.bytes, B.returns, hml, findClass_of_methodNamed B.named, fun w hw => hts w (List.mem_cons_of_mem _ hw), B.notSynchronized, hte, (name_of_methodNamed B.named B.method).1, htr, hK⟩ (q_entry hc hn) hP va_S.rf ⟨Nat.le_refl _, Nat.le_refl _, Nat.le_of_eq (Nat.zero_add _), Nat.le_of_eq (Nat.zero_add _), Nat.le_of_eq (Nat.zero_add _), Nat.le_of_eq (Nat.zero_add _)⟩

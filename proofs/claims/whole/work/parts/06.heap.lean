/-! THE LOGIC'S ROWS for the heap: fields, arrays, new cells -/
theorem q_ad_ne {G : q_G} {k j : Nat} (hk : 0 < k) (hj : 0 < j) (h : j ≠ k) : q_ad G j ≠ q_ad G k := by
  cases k with
  | zero => omega
  | succ k =>
    cases j with
    | zero => omega
    | succ j =>
      show G.2.2.2.1 + j ≠ G.2.2.2.1 + k
      omega
theorem q_ad_A {G : q_G} {k : Nat} (hk : 0 < k) : q_A G (q_ad G k) := by
  cases k with
  | zero => omega
  | succ k => exact Nat.le_add_right _ _
theorem q_P.set {G : q_G} {h : q_H} {N k : Nat} {H H1 : Heap} {e0 e : q_E} (hP : q_P G h N H) (hk : h k = some e0) (hz : H1.size = H.size) (he : va_at G.1 q_cl (q_ad G k, q_e G e) H1) (oq : ∀ q : Nat, q ≠ q_ad G k → H1[q]? = H[q]?) : q_P G (q_up h k e) N H1 := by
  refine ⟨hz.trans hP.1, fun j e2 hj => ?_⟩
  unfold q_up at hj
  by_cases c : j = k
  · subst c
    rw [if_pos rfl] at hj
    cases hj
    exact ⟨(hP.2 j e0 hk).1, (hP.2 j e0 hk).2.1, he⟩
  · rw [if_neg c] at hj
    obtain ⟨a1, a2, a3⟩ := hP.2 j e2 hj
    exact ⟨a1, a2, a3.kept (oq _ (q_ad_ne (hP.2 k e0 hk).1 a1 c))⟩
theorem q_ad_new (G : q_G) (N : Nat) : q_ad G (N + 1) = G.2.2.2.1 + N := rfl
theorem q_P.new {G : q_G} {h : q_H} {N : Nat} {H H1 : Heap} {e : q_E} (hP : q_P G h N H) (hz : H1.size = H.size + 1) (he : va_at G.1 q_cl (H.size, q_e G e) H1) (oq : ∀ q : Nat, q < H.size → H1[q]? = H[q]?) : q_P G (q_up h (N + 1) e) (N + 1) H1 := by
  refine ⟨by rw [hz, hP.1]; omega, fun j e2 hj => ?_⟩
  unfold q_up at hj
  by_cases c : j = N + 1
  · subst c
    rw [if_pos rfl] at hj
    cases hj
    refine ⟨by omega, Nat.le_refl _, ?_⟩
    rw [q_ad_new, ← hP.1]
    exact he
  · rw [if_neg c] at hj
    obtain ⟨a1, a2, a3⟩ := hP.2 j e2 hj
    exact ⟨a1, by omega, a3.kept (oq _ a3.lt)⟩
theorem q_S.grow {A : Nat → Prop} {H0 H H1 : Heap} {locs : List Loc} (hS : va_S A H0 H locs) (hz : H1.size = H.size + 1) (oq : ∀ q : Nat, q < H.size → H1[q]? = H[q]?) : va_S A H0 H1 locs := ⟨Nat.le_trans hS.1 (by omega), fun x h1 h2 => (oq x (Nat.lt_of_lt_of_le h1 hS.1)).trans (hS.2.1 x h1 h2), hS.2.2⟩
theorem q_one {D : va_G} {cl : List vw_C} {x : Nat × va_E} {H : Heap} (h : va_at D cl x H) : va_P D cl [x] H := fun j q hj => by
  cases j with
  | zero => cases hj; exact h
  | succ j => simp at hj
abbrev q_ai (n : Nat) (f : Nat → Int32) : q_E := .inl (0, n, .inl f)
abbrev q_az (n : Nat) (f : Nat → Int32) : q_E := .inl (2, n, .inl f)
abbrev q_al (n : Nat) (f : Nat → Int64) : q_E := .inl (1, n, .inr (.inl f))
abbrev q_ar (t n : Nat) (f : Nat → Option Nat) : q_E := .inl (t, n, .inr (.inr (.inr (.inr f))))
/-- a field, by the place in a class's pool: class ci, its field k, its type, final or not -/
def q_F (own : String) (idx ci k : Nat) (ty : FieldType) (fin : Bool) : Prop := ∃ (C : String) (T : u_T) (n : Nat) (ty0 : Nat → FieldType), q_cl[ci]? = some (C, T, n) ∧ (∀ w ∈ u_ws C T n, w ∈ q_good) ∧ (∀ j, j < n → parseFieldDescriptor (T j).2.2.1 = some (ty0 j)) ∧ (∀ a, a < n → ∀ b, b < n → a ≠ b → (T a).2.1 ≠ (T b).2.1) ∧ k < n ∧ Cond.fieldLink own idx C (T k).2.1 (T k).2.2.1 ∈ q_good ∧ (T k).1 = C ∧ parseFieldDescriptor (T k).2.2.1 = some ty ∧ (T k).2.2.2 = fin
section QH
variable {l : Launch} {G : q_G} {μ : q_M} {fr lo cc ss pc N : Nat} {lv : List (Option Value)} {st : List Value} {h : q_H} {Q : q_Q}
/-- what lies beyond the cells made is none -/
theorem e_fresh (k : (∀ j, N < j → h j = none) → h 0 = none → q_Ev l G μ fr lo cc ss pc lv st h N Q) : q_Ev l G μ fr lo cc ss pc lv st h N Q := by
  intro p e R s m args below meth c H locs cells slots mc ms ls C hl hP hS hR
  refine k (fun j hj => ?_) ?_ p e R s m args below meth c H locs cells slots mc ms ls C hl hP hS hR
  · cases hx : h j with
    | none => rfl
    | some x => exact absurd (hP.2 j x hx).2.1 (by omega)
  · cases hx : h 0 with
    | none => rfl
    | some x => exact absurd (hP.2 0 x hx).1 (by omega)
theorem e_get {a ci k idx : Nat} {fs : List Value} {ty : FieldType} {fin : Bool} {v : Value} (d : decode μ.2.1 pc = .ok (.getfield idx, 3)) (hf : q_F μ.1.cls idx ci k ty fin) (ha : h a = some (.inr (ci, fs))) (hv : fs[k]? = some v) (kk : q_Ev l G μ fr lo cc ss (pc + 3) lv (v :: st) h N Q) : q_Ev l G μ fr lo cc ss pc lv (.ref a :: st) h N Q := by
  intro p e R s m args below meth c H locs cells slots mc ms ls C hl hP hS hR
  obtain ⟨Cn, T, n, ty0, f1, f2, f3, f4, f5, f6, f7, f8, f9⟩ := hf
  obtain ⟨hx, hb, hr, hml, hown, hts, hlk, htb, hnm, htr, hK⟩ := id C
  exact va_get (D := G.1) (cl := q_cl) (tys := q_ty G) (ws := [(q_ad G a, .inr (ci, fs.map (q_v G)))]) (v := q_v G v) hx hb hts f2 hown hK.1 (q_one (hP.2 a _ ha).2.2) 0 rfl f1 k f5 (hts _ f6) (fun x hx => by rw [f7] at hx; exact hx) (by simp [hv]) d (kk p e R s m args below meth c H locs cells slots mc ms ls C hl hP hS hR)
theorem e_put {a ci k idx : Nat} {fs : List Value} {ty : FieldType} {v : Value} (d : decode μ.2.1 pc = .ok (.putfield idx, 3)) (hf : q_F μ.1.cls idx ci k ty false) (ha : h a = some (.inr (ci, fs))) (hl0 : k < fs.length) (hn : ∀ G : q_G, narrow ty (q_v G v) = q_v G v) (hft : ∀ G : q_G, fits ty (q_v G v) = true) (kk : q_Ev l G μ fr lo cc ss (pc + 3) lv st (q_up h a (.inr (ci, fs.set k v))) N Q) : q_Ev l G μ fr lo cc ss pc lv (v :: .ref a :: st) h N Q := by
  intro p e R s m args below meth c H locs cells slots mc ms ls C hl hP hS hR
  obtain ⟨Cn, T, n, ty0, f1, f2, f3, f4, f5, f6, f7, f8, f9⟩ := hf
  obtain ⟨hx, hb, hr, hml, hown, hts, hlk, htb, hnm, htr, hK⟩ := id C
  have hap := va_apart (own := μ.1.cls) hts f2 ty0 f3 f4 hK.1 f1
  have hpos := (hP.2 a _ ha).1
  obtain ⟨r, h1, cell, q1, q2, q3, q4⟩ := (hP.2 a _ ha).2.2
  have hr9 : r = (Cn, T, n) := Option.some.inj (h1.symm.trans f1)
  subst hr9
  obtain ⟨hS9, hfc, kC, hkC, hkind⟩ := hK.1.1 ci _ f1
  obtain ⟨cf, kf, fi, f, hi, hsl⟩ := hS9 k f5
  have hlay := hts _ (f2 _ (u_in_lay f5))
  unfold u_lay at hlay
  rw [if_neg (by rw [f9]; decide)] at hlay
  have hst := (u_facts hfc hkC (u_lays hts f2 f5) hi).1
  have h6 := u_store hfc hkC hkind hlay hi f8 (hn G) (hft G)
  refine W.putK hx hb (f := f) ⟨hown, hts _ f6, ⟨_, _, _, by rw [f7] at hi; exact hi⟩, hst⟩ (by rw [q2]; exact h6) q1 q3 (by rw [hsl]; exact k2_hasslot (q4 k f5)) rfl rfl d fun H' e1 e2 e3 => ?_
  rw [hsl] at e1 ⊢
  refine kk p e R s m args below meth c H' _ cells slots mc ms ls C hl (hP.set ha e2 ⟨_, f1, ?_⟩ e3) (hS.put e2 e3 (q_ad_A hpos)) hR
  refine t_OB.to (V := updV (vp_V (fs.map (q_v G))) k (q_v G v)) ⟨_, e1, q2, q3, t_set q4 hap f5 (q_v G v)⟩ (fun j _ => ?_)
  rw [vp_updV_set (by simpa using hl0)]
  simp only [List.map_set]
theorem e_putF {a ci k idx : Nat} {fs : List Value} {ty : FieldType} {v : Value} (d : decode μ.2.1 pc = .ok (.putfield idx, 3)) (hf : q_F μ.1.cls idx ci k ty true) (hin : μ.1.name = "<init>") (hcl : (q_cl[ci]?).map (fun r => r.1) = some μ.1.cls) (ha : h a = some (.inr (ci, fs))) (hl0 : k < fs.length) (hn : ∀ G : q_G, narrow ty (q_v G v) = q_v G v) (hft : ∀ G : q_G, fits ty (q_v G v) = true) (kk : q_Ev l G μ fr lo cc ss (pc + 3) lv st (q_up h a (.inr (ci, fs.set k v))) N Q) : q_Ev l G μ fr lo cc ss pc lv (v :: .ref a :: st) h N Q := by
  intro p e R s m args below meth c H locs cells slots mc ms ls C hl hP hS hR
  obtain ⟨Cn, T, n, ty0, f1, f2, f3, f4, f5, f6, f7, f8, f9⟩ := hf
  obtain ⟨hx, hb, hr, hml, hown, hts, hlk, htb, hnm, htr, hK⟩ := id C
  have hCn : Cn = μ.1.cls := by rw [f1] at hcl; exact Option.some.inj hcl
  have hap := va_apart (own := μ.1.cls) hts f2 ty0 f3 f4 hK.1 f1
  have hpos := (hP.2 a _ ha).1
  obtain ⟨r, h1, cell, q1, q2, q3, q4⟩ := (hP.2 a _ ha).2.2
  have hr9 : r = (Cn, T, n) := Option.some.inj (h1.symm.trans f1)
  subst hr9
  obtain ⟨hS9, hfc, kC, hkC, hkind⟩ := hK.1.1 ci _ f1
  obtain ⟨cf, kf, fi, f, hi, hsl⟩ := hS9 k f5
  have hlay := hts _ (f2 _ (u_in_lay f5))
  unfold u_lay at hlay
  rw [if_pos f9] at hlay
  have hst := (u_facts hfc hkC (u_lays hts f2 f5) hi).1
  have hcf : m.cls = cf := by
    obtain ⟨_, _, c', _, _, _, -, -, hf', -, -, -, hown2, -⟩ := Cond.laysFinal_spec hlay
    have e1 : c' = cf := by have := hi.symm.trans hf'; simp at this; exact this.1.symm
    rw [f7, hCn] at hown2
    rw [← e1]; exact Option.some.inj (hown.symm.trans hown2)
  have h6 := u_fits hfc hkC hkind (Or.inr hlay) hi f8 (hn G) (hft G)
  refine W.putFinK hx hb hown (hts _ f6) (by rw [f7] at hi; exact hi) hst hcf (hnm.trans hin) (by rw [q2]; exact h6) q1 q3 (by rw [hsl]; exact k2_hasslot (q4 k f5)) rfl rfl d fun H' e1 e2 e3 => ?_
  rw [hsl] at e1 ⊢
  refine kk p e R s m args below meth c H' _ cells slots mc ms ls C hl (hP.set ha e2 ⟨_, f1, ?_⟩ e3) (hS.put e2 e3 (q_ad_A hpos)) hR
  refine t_OB.to (V := updV (vp_V (fs.map (q_v G))) k (q_v G v)) ⟨_, e1, q2, q3, t_set q4 hap f5 (q_v G v)⟩ (fun j _ => ?_)
  rw [vp_updV_set (by simpa using hl0)]
  simp only [List.map_set]
theorem e_iald {a n : Nat} {f : Nat → Int32} {i : Int32} (d : decode μ.2.1 pc = .ok (.iaload, 1)) (ha : h a = some (q_ai n f)) (hi : vp_in i n) (kk : q_Ev l G μ fr lo cc ss (pc + 1) lv (.int (f i.toNatClampNeg) :: st) h N Q) : q_Ev l G μ fr lo cc ss pc lv (.int i :: .ref a :: st) h N Q := by
  intro p e R s m args below meth c H locs cells slots mc ms ls C hl hP hS hR
  obtain ⟨hx, hb, hr, hml, hown, hts, hlk, htb, hnm, htr, hK⟩ := id C
  exact va_iald (D := G.1) (cl := q_cl) (tys := q_ty G) (ws := [(q_ad G a, .inl (G.2.1 0, n, .inl f))]) hx hb hK.1 (q_one (hP.2 a _ ha).2.2) 0 0 rfl rfl hi d (kk p e R s m args below meth c H locs cells slots mc ms ls C hl hP hS hR)
theorem e_zald {a n : Nat} {f : Nat → Int32} {i : Int32} (d : decode μ.2.1 pc = .ok (.baload, 1)) (ha : h a = some (q_az n f)) (hi : vp_in i n) (kk : q_Ev l G μ fr lo cc ss (pc + 1) lv (.int (f i.toNatClampNeg) :: st) h N Q) : q_Ev l G μ fr lo cc ss pc lv (.int i :: .ref a :: st) h N Q := by
  intro p e R s m args below meth c H locs cells slots mc ms ls C hl hP hS hR
  obtain ⟨hx, hb, hr, hml, hown, hts, hlk, htb, hnm, htr, hK⟩ := id C
  exact va_zald (D := G.1) (cl := q_cl) (tys := q_ty G) (ws := [(q_ad G a, .inl (G.2.1 2, n, .inl f))]) hx hb hK.1 (q_one (hP.2 a _ ha).2.2) 0 2 rfl rfl hi d (kk p e R s m args below meth c H locs cells slots mc ms ls C hl hP hS hR)
theorem e_lald {a n : Nat} {f : Nat → Int64} {i : Int32} (d : decode μ.2.1 pc = .ok (.laload, 1)) (ha : h a = some (q_al n f)) (hi : vp_in i n) (kk : q_Ev l G μ fr lo cc ss (pc + 1) lv (.long (f i.toNatClampNeg) :: st) h N Q) : q_Ev l G μ fr lo cc ss pc lv (.int i :: .ref a :: st) h N Q := by
  intro p e R s m args below meth c H locs cells slots mc ms ls C hl hP hS hR
  obtain ⟨hx, hb, hr, hml, hown, hts, hlk, htb, hnm, htr, hK⟩ := id C
  exact va_lald (D := G.1) (cl := q_cl) (tys := q_ty G) (ws := [(q_ad G a, .inl (G.2.1 1, n, .inr (.inl f)))]) hx hb hK.1 (q_one (hP.2 a _ ha).2.2) 0 1 rfl rfl hi d (kk p e R s m args below meth c H locs cells slots mc ms ls C hl hP hS hR)
theorem e_aald {a t n : Nat} {C0 : String} {f : Nat → Option Nat} {i : Int32} {x : Nat} (d : decode μ.2.1 pc = .ok (.aaload, 1)) (ha : h a = some (q_ar t n f)) (ht : ∀ G : q_G, (q_ty G)[t]? = some (G.2.1 t, .object C0)) (hi : vp_in i n) (hx0 : f i.toNatClampNeg = some x) (kk : q_Ev l G μ fr lo cc ss (pc + 1) lv (.ref x :: st) h N Q) : q_Ev l G μ fr lo cc ss pc lv (.int i :: .ref a :: st) h N Q := by
  intro p e R s m args below meth c H locs cells slots mc ms ls C hl hP hS hR
  obtain ⟨hx, hb, hr, hml, hown, hts, hlk, htb, hnm, htr, hK⟩ := id C
  refine va_aldq (D := G.1) (cl := q_cl) (tys := q_ty G) (ws := [(q_ad G a, .inl (G.2.1 t, n, .inr (.inr (.inr (.inr (fun j => (f j).map (q_ad G)))))))]) hx hb hK.1 (q_one (hP.2 a _ ha).2.2) 0 t rfl (ht G) hi d ?_
  rw [hx0]
  exact kk p e R s m args below meth c H locs cells slots mc ms ls C hl hP hS hR
theorem e_iast {a n : Nat} {f : Nat → Int32} {i x : Int32} (d : decode μ.2.1 pc = .ok (.iastore, 1)) (ha : h a = some (q_ai n f)) (hi : vp_in i n) (kk : q_Ev l G μ fr lo cc ss (pc + 1) lv st (q_up h a (q_ai n (upd f i.toNatClampNeg x))) N Q) : q_Ev l G μ fr lo cc ss pc lv (.int x :: .int i :: .ref a :: st) h N Q := by
  intro p e R s m args below meth c H locs cells slots mc ms ls C hl hP hS hR
  obtain ⟨hx, hb, hr, hml, hown, hts, hlk, htb, hnm, htr, hK⟩ := id C
  have hpos := (hP.2 a _ ha).1
  have hat : H[q_ad G a]? = some (arrV (G.2.1 0) n (fun j => .int (f j))) := (hP.2 a _ ha).2.2
  refine W.iast hx hb hat ((hK.1.2 0 _ rfl).1 n (fun j => .int (f j))) (fun q => by cases q) (by rw [arrV_size]; exact hi) rfl rfl d fun H1 e1 z oq => ?_
  refine kk p e R s m args below meth c H1 _ cells slots mc ms ls C hl (hP.set ha z ?_ oq) (hS.put z oq (q_ad_A hpos)) hR
  show H1[q_ad G a]? = some (arrV (G.2.1 0) n (fun j => .int (upd f i.toNatClampNeg x j)))
  rw [e1, arrV_store]
  congr 2
  funext q
  by_cases hq : q = i.toNatClampNeg
  · subst hq
    simp [updV, upd]
  · simp [updV, upd, hq]
theorem e_zast {a n : Nat} {f : Nat → Int32} {i x : Int32} (d : decode μ.2.1 pc = .ok (.bastore, 1)) (ha : h a = some (q_az n f)) (hi : vp_in i n) (hn : narrow .boolean (.int x) = .int x) (kk : q_Ev l G μ fr lo cc ss (pc + 1) lv st (q_up h a (q_az n (upd f i.toNatClampNeg x))) N Q) : q_Ev l G μ fr lo cc ss pc lv (.int x :: .int i :: .ref a :: st) h N Q := by
  intro p e R s m args below meth c H locs cells slots mc ms ls C hl hP hS hR
  obtain ⟨hx, hb, hr, hml, hown, hts, hlk, htb, hnm, htr, hK⟩ := id C
  have hpos := (hP.2 a _ ha).1
  have hat : H[q_ad G a]? = some (arrV (G.2.1 2) n (fun j => .int (f j))) := (hP.2 a _ ha).2.2
  refine W.zast hx hb hat ((hK.1.2 2 _ rfl).1 n (fun j => .int (f j))) (fun q => by cases q) (by rw [arrV_size]; exact hi) rfl rfl d fun H1 e1 z oq => ?_
  refine kk p e R s m args below meth c H1 _ cells slots mc ms ls C hl (hP.set ha z ?_ oq) (hS.put z oq (q_ad_A hpos)) hR
  show H1[q_ad G a]? = some (arrV (G.2.1 2) n (fun j => .int (upd f i.toNatClampNeg x j)))
  rw [e1, hn, arrV_store]
  congr 2
  funext q
  by_cases hq : q = i.toNatClampNeg
  · subst hq
    simp [updV, upd]
  · simp [updV, upd, hq]
theorem e_last {a n : Nat} {f : Nat → Int64} {i : Int32} {x : Int64} (d : decode μ.2.1 pc = .ok (.lastore, 1)) (ha : h a = some (q_al n f)) (hi : vp_in i n) (kk : q_Ev l G μ fr lo cc ss (pc + 1) lv st (q_up h a (q_al n (vp_updL f i.toNatClampNeg x))) N Q) : q_Ev l G μ fr lo cc ss pc lv (.long x :: .int i :: .ref a :: st) h N Q := by
  intro p e R s m args below meth c H locs cells slots mc ms ls C hl hP hS hR
  obtain ⟨hx, hb, hr, hml, hown, hts, hlk, htb, hnm, htr, hK⟩ := id C
  have hpos := (hP.2 a _ ha).1
  have hat : H[q_ad G a]? = some (arrV (G.2.1 1) n (fun j => .long (f j))) := (hP.2 a _ ha).2.2
  refine W.last hx hb hat ((hK.1.2 1 _ rfl).1 n (fun j => .long (f j))) (fun q => by cases q) (by rw [arrV_size]; exact hi) rfl rfl d fun H1 e1 z oq => ?_
  refine kk p e R s m args below meth c H1 _ cells slots mc ms ls C hl (hP.set ha z ?_ oq) (hS.put z oq (q_ad_A hpos)) hR
  show H1[q_ad G a]? = some (arrV (G.2.1 1) n (fun j => .long (vp_updL f i.toNatClampNeg x j)))
  rw [e1, arrV_store]
  congr 2
  funext q
  by_cases hq : q = i.toNatClampNeg
  · subst hq
    simp [updV, vp_updL]
  · simp [updV, vp_updL, hq]
theorem e_aast {a t n v ci : Nat} {vs : List Value} {r : vw_C} {f : Nat → Option Nat} {i : Int32} (d : decode μ.2.1 pc = .ok (.aastore, 1)) (ha : h a = some (q_ar t n f)) (hv : h v = some (.inr (ci, vs))) (hc : q_cl[ci]? = some r) (ht : ∀ G : q_G, (q_ty G)[t]? = some (G.2.1 t, .object r.1)) (hi : vp_in i n) (kk : q_Ev l G μ fr lo cc ss (pc + 1) lv st (q_up h a (q_ar t n (va_up f i.toNatClampNeg (some v)))) N Q) : q_Ev l G μ fr lo cc ss pc lv (.ref v :: .int i :: .ref a :: st) h N Q := by
  intro p e R s m args below meth c H locs cells slots mc ms ls C hl hP hS hR
  obtain ⟨hx, hb, hr, hml, hown, hts, hlk, htb, hnm, htr, hK⟩ := id C
  have hpos := (hP.2 a _ ha).1
  have hat : H[q_ad G a]? = some (arrV (G.2.1 t) n (fun j => va_rf ((f j).map (q_ad G)))) := (hP.2 a _ ha).2.2
  have hlt : i.toNatClampNeg < n := Nat.not_le.mp fun q => hi (Or.inr q)
  have h0 : ¬ i < 0 := fun q => hi (Or.inl q)
  obtain ⟨r', hr', cellV, g1, g2, g3, -⟩ := (hP.2 v _ hv).2.2
  have hcls := (hK.1.1 ci r hc).2
  obtain ⟨kA, comp, k1, k2, k3, -⟩ := (hK.1.2 t _ (ht G)).2
  have hcomp : comp = G.1.1 ci := Option.some.inj (k3.symm.trans hcls.1)
  subst hcomp
  obtain ⟨kC, hkC, -⟩ := hcls.2
  refine W.aast hx hb hat (fun q h => by cases h) (fun h => by cases h) k1 k2 rfl hkC ⟨h0, by rw [arrV_size]; exact hlt⟩ g1 (fun q h => by rw [g3] at h; cases h) (by rw [g2]; exact hkC) (by rw [g2]; exact va_assign hcls) rfl rfl d fun H1 e1 z oq => ?_
  refine kk p e R s m args below meth c H1 _ cells slots mc ms ls C hl (hP.set ha z ?_ oq) (hS.put z oq (q_ad_A hpos)) hR
  show H1[q_ad G a]? = some (arrV (G.2.1 t) n (fun j => va_rf ((va_up f i.toNatClampNeg (some v) j).map (q_ad G))))
  rw [e1, arrV_store]
  congr 2
  funext q
  by_cases hq : q = i.toNatClampNeg
  · subst hq
    simp [updV, va_up, va_rf]
  · simp [updV, va_up, hq]
theorem e_alen {a t n : Nat} {x : (Nat → Int32) ⊕ (Nat → Int64) ⊕ (Nat → UInt32) ⊕ (Nat → UInt64) ⊕ (Nat → Option Nat)} {ty : FieldType} (d : decode μ.2.1 pc = .ok (.arraylength, 1)) (ha : h a = some (.inl (t, n, x))) (ht : ∀ G : q_G, (q_ty G)[t]? = some (G.2.1 t, ty)) (kk : q_Ev l G μ fr lo cc ss (pc + 1) lv (.int (nI n) :: st) h N Q) : q_Ev l G μ fr lo cc ss pc lv (.ref a :: st) h N Q := by
  intro p e R s m args below meth c H locs cells slots mc ms ls C hl hP hS hR
  obtain ⟨hx, hb, hr, hml, hown, hts, hlk, htb, hnm, htr, hK⟩ := id C
  refine va_alen (D := G.1) (cl := q_cl) (tys := q_ty G) (ws := [(q_ad G a, .inl (G.2.1 t, q_a G (n, x)))]) (v := nI n) hx hb hK.1 (q_one (hP.2 a _ ha).2.2) 0 t rfl (ht G) ?_ d (kk p e R s m args below meth c H locs cells slots mc ms ls C hl hP hS hR)
  rcases x with f | f | f | f | f <;> rfl
theorem e_sld {i : Int32} (d : decode μ.2.1 pc = .ok (.iaload, 1)) (hi : vp_in i G.2.2.2.2.1) (kk : q_Ev l G μ fr lo cc ss (pc + 1) lv (.int (G.2.2.2.2.2 i.toNatClampNeg) :: st) h N Q) : q_Ev l G μ fr lo cc ss pc lv (.int i :: .ref 0 :: st) h N Q := by
  intro p e R s m args below meth c H locs cells slots mc ms ls C hl hP hS hR
  obtain ⟨hx, hb, hr, hml, hown, hts, hlk, htb, hnm, htr, hK⟩ := id C
  exact va_sld hx hb hK.2.1 (Nat.lt_of_lt_of_le hK.2.2.1 hK.2.2.2.1) (Nat.not_le.mpr hK.2.2.1) hS hi d (kk p e R s m args below meth c H locs cells slots mc ms ls C hl hP hS hR)
theorem e_slen (d : decode μ.2.1 pc = .ok (.arraylength, 1)) (kk : q_Ev l G μ fr lo cc ss (pc + 1) lv (.int (nI G.2.2.2.2.1) :: st) h N Q) : q_Ev l G μ fr lo cc ss pc lv (.ref 0 :: st) h N Q := by
  intro p e R s m args below meth c H locs cells slots mc ms ls C hl hP hS hR
  obtain ⟨hx, hb, hr, hml, hown, hts, hlk, htb, hnm, htr, hK⟩ := id C
  exact va_slen hx hb hK.2.1 (Nat.lt_of_lt_of_le hK.2.2.1 hK.2.2.2.1) (Nat.not_le.mpr hK.2.2.1) hS d (kk p e R s m args below meth c H locs cells slots mc ms ls C hl hP hS hR)
end QH

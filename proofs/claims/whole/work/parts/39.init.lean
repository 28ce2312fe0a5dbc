/-! ZnodeService() -/
theorem arrV_congr (cA : ClassId) {n : Nat} {f g : Nat → Value} (h : ∀ j, j < n → f j = g j) : arrV cA n f = arrV cA n g := by
  unfold arrV
  congr 1
  apply Array.ext
  · simp
  · intro i h1 h2
    simp only [Array.getElem_ofFn]
    exact h i (by simpa using h1)
/-- what an array of references holds beyond its end counts for nothing -/
theorem e_ext {l : Launch} {G : q_G} {μ : q_M} {fr lo cc ss pc N : Nat} {lv : List (Option Value)} {st : List Value} {h : q_H} {Q : q_Q} {a t n : Nat} {f g : Nat → Option Nat} (ha : h a = some (q_ar t n f)) (hfg : ∀ j, j < n → f j = g j) (k : q_Ev l G μ fr lo cc ss pc lv st (q_up h a (q_ar t n g)) N Q) : q_Ev l G μ fr lo cc ss pc lv st h N Q := by
  intro p e R s m args below meth c H locs cells slots mc ms ls C hl hP hS hR
  refine k p e R s m args below meth c H locs cells slots mc ms ls C hl (hP.set ha rfl ?_ (fun _ _ => rfl)) hS hR
  have h1 : H[q_ad G a]? = some (arrV (G.2.1 t) n (fun j => va_rf ((f j).map (q_ad G)))) := (hP.2 a _ ha).2.2
  show H[q_ad G a]? = some (arrV (G.2.1 t) n (fun j => va_rf ((g j).map (q_ad G))))
  rw [h1]
  congr 1
  exact arrV_congr _ (fun j hj => by rw [hfg j hj])
def pre (f : Nat → Nat) (i : Nat) : Nat → Option Nat := fun k => if k < i then some (f k) else none
theorem pre_s (f : Nat → Nat) (i : Nat) : va_up (pre f i) i (some (f i)) = pre f (i + 1) := by
  funext k
  by_cases c : k = i
  · subst c; simp [va_up, pre]
  · have : k < i + 1 ↔ k < i := by omega
    simp [va_up, pre, c, this]
def R00 : zR := (some 0, 1, nI 0, t00, fun _ => (fun _ => none, 0, 0, 1, true, false), fun _ => t00, fun _ => ((fun _ => 0, fun _ => 0, 0), false, false, 0, nI 0, nI 0))
def zI1 (i : Nat) (h : q_H) : Prop := h 1 = some (zs_ob (some 0) 1 (nI 0)) ∧ h 2 = some (q_ar 3 3 (pre (fun k => 9 + 7 * k) i)) ∧ h 3 = some (q_ar 4 4 (fun _ => none)) ∧ tr_At h 4 t00.1 t00.2.1 t00.2.2.1 t00.2.2.2 ∧ ∀ k, k < i → sv_At h (9 + 7 * k) (fun _ => none) 0 0 1 true false ∧ tr_At h (9 + 7 * k + 2) t00.1 t00.2.1 t00.2.2.1 t00.2.2.2
def zI2 (j : Nat) (h : q_H) : Prop := h 1 = some (zs_ob (some 0) 1 (nI 0)) ∧ h 2 = some (q_ar 3 3 (pre (fun k => 9 + 7 * k) 3)) ∧ h 3 = some (q_ar 4 4 (pre (fun k => 30 + 3 * k) j)) ∧ tr_At h 4 t00.1 t00.2.1 t00.2.2.1 t00.2.2.2 ∧ (∀ k, k < 3 → sv_At h (9 + 7 * k) (fun _ => none) 0 0 1 true false ∧ tr_At h (9 + 7 * k + 2) t00.1 t00.2.1 t00.2.2.1 t00.2.2.2) ∧ ∀ k, k < j → ss_At h (30 + 3 * k) (fun _ => 0) (fun _ => 0) 0 false false 0 (nI 0) (nI 0)
theorem zs_R00 {h : q_H} (hI : zI2 4 h) : q_up (q_up h 2 (q_ar 3 3 (fun i => some (9 + 7 * i)))) 3 (q_ar 4 4 (fun j => some (30 + 3 * j))) = zs_put (q_up (q_up h 2 (q_ar 3 3 (fun i => some (9 + 7 * i)))) 3 (q_ar 4 4 (fun j => some (30 + 3 * j)))) R00 := by
  obtain ⟨h1, h2, h3, hT, hV, hS⟩ := hI
  funext a
  by_cases c : a ≤ 41
  · have key : ∀ a, a ≤ 41 → a ≠ 0 → a ≠ 2 → a ≠ 3 → h a = zc R00 a := by
      intro a ha h0 hn2 hn3
      have V0 := hV 0 (by omega); have V1 := hV 1 (by omega); have V2 := hV 2 (by omega)
      have S0 := hS 0 (by omega); have S1 := hS 1 (by omega); have S2 := hS 2 (by omega); have S3 := hS 3 (by omega)
      match a, ha, h0, hn2, hn3 with
      | 1, _, _, _, _ => exact h1
      | 4, _, _, _, _ => exact hT.1
      | 5, _, _, _, _ => exact hT.2.1
      | 6, _, _, _, _ => exact hT.2.2.1
      | 7, _, _, _, _ => exact hT.2.2.2.1
      | 8, _, _, _, _ => exact hT.2.2.2.2
      | 9, _, _, _, _ => exact V0.1.1
      | 10, _, _, _, _ => exact V0.1.2
      | 11, _, _, _, _ => exact V0.2.1
      | 12, _, _, _, _ => exact V0.2.2.1
      | 13, _, _, _, _ => exact V0.2.2.2.1
      | 14, _, _, _, _ => exact V0.2.2.2.2.1
      | 15, _, _, _, _ => exact V0.2.2.2.2.2
      | 16, _, _, _, _ => exact V1.1.1
      | 17, _, _, _, _ => exact V1.1.2
      | 18, _, _, _, _ => exact V1.2.1
      | 19, _, _, _, _ => exact V1.2.2.1
      | 20, _, _, _, _ => exact V1.2.2.2.1
      | 21, _, _, _, _ => exact V1.2.2.2.2.1
      | 22, _, _, _, _ => exact V1.2.2.2.2.2
      | 23, _, _, _, _ => exact V2.1.1
      | 24, _, _, _, _ => exact V2.1.2
      | 25, _, _, _, _ => exact V2.2.1
      | 26, _, _, _, _ => exact V2.2.2.1
      | 27, _, _, _, _ => exact V2.2.2.2.1
      | 28, _, _, _, _ => exact V2.2.2.2.2.1
      | 29, _, _, _, _ => exact V2.2.2.2.2.2
      | 30, _, _, _, _ => exact S0.1
      | 31, _, _, _, _ => exact S0.2.1
      | 32, _, _, _, _ => exact S0.2.2
      | 33, _, _, _, _ => exact S1.1
      | 34, _, _, _, _ => exact S1.2.1
      | 35, _, _, _, _ => exact S1.2.2
      | 36, _, _, _, _ => exact S2.1
      | 37, _, _, _, _ => exact S2.2.1
      | 38, _, _, _, _ => exact S2.2.2
      | 39, _, _, _, _ => exact S3.1
      | 40, _, _, _, _ => exact S3.2.1
      | 41, _, _, _, _ => exact S3.2.2
      | a + 42, ha, _, _, _ => exact absurd ha (by omega)
    by_cases c2 : a = 2
    · subst c2; rfl
    by_cases c3 : a = 3
    · subst c3; rfl
    by_cases c0 : a = 0
    · subst c0; rfl
    · rw [q_up_n _ c3, q_up_n _ c2, key a c c0 c2 c3]
      unfold zs_put
      have hz := key a c c0 c2 c3
      rw [q_up_n _ c3, q_up_n _ c2, hz]
      cases zc R00 a <;> rfl
  · exact (zs_hi (by omega)).symm
set_option maxHeartbeats 4000000 in
set_option maxRecDepth 100000 in
theorem lp_zs_init2 {l : Launch} {G : q_G} (htr : l.stackTraces = false) : ∀ (g j : Nat) (h : q_H), j + g = 4 → zI2 j h → q_Ev l G m_zs_init 3 63 (3 * g) (275 * g) 74 [some (.ref (1)), some (.int (nI (j)))] [] h (29 + 3 * j) (fun o h' N' => o = .inl none ∧ N' = 41 ∧ h' = zs_put h' R00) := by
  intro g
  induction g with
  | zero =>
    intro j h hg hI
    have hj : j = 4 := by omega
    subst hj
    refine e_iload_n (pc := 74) d_zs_init_74 rfl ?_
    refine e_iconst (pc := 75) d_zs_init_75 (v := nI 4) rfl ?_
    refine e_icmp_geN (pc := 76) (tgt := 98) d_zs_init_76 (by decide) (by decide) (by decide) (fun _ => ?_) (fun c => absurd c (by decide))
    refine e_ext (g := fun i => some (9 + 7 * i)) hI.2.1 (fun i hi => by simp [pre, hi]) ?_
    refine e_ext (a := 3) (t := 4) (n := 4) (f := pre (fun k => 30 + 3 * k) 4) (g := fun j => some (30 + 3 * j)) (by rw [q_up_n _ (by decide)]; exact hI.2.2.1) (fun i hi => by simp [pre, hi]) ?_
    exact e_vret (pc := 98) d_zs_init_98 rfl ⟨rfl, rfl, zs_R00 hI⟩
  | succ g ih =>
    intro j h hg hI
    have hj : j < 4 := by omega
    obtain ⟨i1, i2, i3, iT, iV, iS⟩ := hI
    refine e_iload_n (pc := 74) d_zs_init_74 rfl ?_
    refine e_iconst (pc := 75) d_zs_init_75 (v := (nI (4))) rfl ?_
    refine e_icmp_geN (pc := 76) (tgt := 98) d_zs_init_76 (by decide) (by omega) (by decide) (fun c => by omega) (fun _ => ?_)
    refine e_aload_n (pc := 79) d_zs_init_79 rfl ?_
    refine e_get (pc := 80) d_zs_init_80 fl_zs_17 i1 rfl ?_
    refine e_iload_n (pc := 83) d_zs_init_83 rfl ?_
    refine e_new (pc := 84) (cc' := 2 + 3 * g) (ss' := 267 + 275 * g) d_zs_init_84 nw_zs_15 (by omega) (by omega) ?_
    obtain ⟨ha, eha⟩ : ∃ y, y = q_up h (29 + 3 * j + 1) (.inr (2, [.null, .null, .int 0, .int 0, .int 0, .int 0, .int 0, .int 0])) := ⟨_, rfl⟩
    refine q_Ev.hp eha ?_
    have hn : ha (30 + 3 * j) = some (.inr (2, [.null, .null, .int 0, .int 0, .int 0, .int 0, .int 0, .int 0])) := by rw [eha, show 30 + 3 * j = 29 + 3 * j + 1 by omega]; exact q_up_s _ _ _
    have ho : ∀ x, x ≠ 30 + 3 * j → ha x = h x := fun x hx => by rw [eha]; exact q_up_n _ (by omega)
    rw [show 29 + 3 * j + 1 = 30 + 3 * j by omega]
    refine e_dup (pc := 87) d_zs_init_87 rfl ?_
    refine e_callIN (b := 30 + 3 * j) (As := []) (st := [.ref (30 + 3 * j), .int (nI j), .ref 3]) (cc2 := 3 * g) (ss2 := 275 * g) (pc := 88) d_zs_init_88 cm_zs_39 (c_ss_init htr (N := 30 + 3 * j) hn) rfl (by decide) (by decide) (by omega) (by omega) (Nat.le_of_ble_eq_true rfl) (fun _ _ _ hq => nomatch hq.1) (fun r hb N1 hq => ?_)
    obtain ⟨hr, eN, hS, hfr⟩ := hq
    cases hr
    subst eN
    show q_Ev l G m_zs_init 3 63 (3 * g) (275 * g) 91 [some (.ref 1), some (.int (nI j))] [.ref (30 + 3 * j), .int (nI j), .ref 3] hb (30 + 3 * j + 2) _
    have hall : ∀ x, x < 30 + 3 * j → hb x = h x := fun x hx => (hfr x hx).trans (ho x (by omega))
    refine e_aastN (pc := 91) d_zs_init_91 ((hall 3 (by omega)).trans i3) hS.1 rfl (fun _ => rfl) hj (by decide) ?_
    rw [pre_s]
    refine e_iincN (pc := 92) d_zs_init_92 (a := j) (b := 1) rfl rfl (by decide) ?_
    refine e_goto (pc := 95) (tgt := 74) d_zs_init_95 (by decide) ?_
    rw [show 30 + 3 * j + 2 = 29 + 3 * (j + 1) by omega]
    have hz : ∀ x, x ≠ 3 → x < 30 + 3 * j → q_up hb 3 (q_ar 4 4 (pre (fun k => 30 + 3 * k) (j + 1))) x = h x := fun x h1 h2 => (q_up_n _ h1).trans (hall x h2)
    refine ih (j + 1) _ (by omega) ⟨(hz 1 (by decide) (by omega)).trans i1, (hz 2 (by decide) (by omega)).trans i2, q_up_s _ _ _, iT.fr (fun x h1 h2 => hz x (by omega) (by omega)), fun k hk => ⟨(iV k hk).1.fr (fun x h1 h2 => hz x (by omega) (by omega)), (iV k hk).2.fr (fun x h1 h2 => hz x (by omega) (by omega))⟩, fun k hk => ?_⟩
    by_cases c : k = j
    · subst c
      exact hS.fr (fun x h1 h2 => q_up_n _ (by omega))
    · exact (iS k (by omega)).fr (fun x h1 h2 => hz x (by omega) (by omega))
set_option maxHeartbeats 4000000 in
set_option maxRecDepth 100000 in
theorem lp_zs_init1 {l : Launch} {G : q_G} (htr : l.stackTraces = false) : ∀ (g i : Nat) (h : q_H), i + g = 3 → zI1 i h → q_Ev l G m_zs_init 3 63 (7 * g + 12) (895 * g + 1100) 48 [some (.ref (1)), some (.int (nI (i)))] [] h (8 + 7 * i) (fun o h' N' => o = .inl none ∧ N' = 41 ∧ h' = zs_put h' R00) := by
  intro g
  induction g with
  | zero =>
    intro i h hg hI
    have hj : i = 3 := by omega
    subst hj
    refine e_iload_n (pc := 48) d_zs_init_48 rfl ?_
    refine e_iconst (pc := 49) d_zs_init_49 (v := nI 3) rfl ?_
    refine e_icmp_geN (pc := 50) (tgt := 72) d_zs_init_50 (by decide) (by decide) (by decide) (fun _ => ?_) (fun c => absurd c (by decide))
    refine e_iconst (pc := 72) d_zs_init_72 (v := nI 0) rfl ?_
    refine e_istore_n (pc := 73) d_zs_init_73 (by decide) ?_
    obtain ⟨i1, i2, i3, iT, iV⟩ := hI
    have e3 : pre (fun k => 30 + 3 * k) 0 = fun _ => none := by funext k; simp [pre]
    exact lp_zs_init2 htr 4 0 h rfl ⟨i1, i2, by rw [e3]; exact i3, iT, iV, fun k hk => absurd hk (by omega)⟩
  | succ g ih =>
    intro i h hg hI
    have hj : i < 3 := by omega
    obtain ⟨i1, i2, i3, iT, iV⟩ := hI
    refine e_iload_n (pc := 48) d_zs_init_48 rfl ?_
    refine e_iconst (pc := 49) d_zs_init_49 (v := (nI (3))) rfl ?_
    refine e_icmp_geN (pc := 50) (tgt := 72) d_zs_init_50 (by decide) (by omega) (by decide) (fun c => by omega) (fun _ => ?_)
    refine e_aload_n (pc := 53) d_zs_init_53 rfl ?_
    refine e_get (pc := 54) d_zs_init_54 fl_zs_11 i1 rfl ?_
    refine e_iload_n (pc := 57) d_zs_init_57 rfl ?_
    refine e_new (pc := 58) (cc' := 6 + (7 * g + 12)) (ss' := 888 + (895 * g + 1100)) d_zs_init_58 nw_zs_9 (by omega) (by omega) ?_
    obtain ⟨ha, eha⟩ : ∃ y, y = q_up h (8 + 7 * i + 1) (.inr (1, [.null, .null, .int 0, .int 0, .int 0, .int 0, .int 0])) := ⟨_, rfl⟩
    refine q_Ev.hp eha ?_
    have hn : ha (9 + 7 * i) = some (.inr (1, [.null, .null, .int 0, .int 0, .int 0, .int 0, .int 0])) := by rw [eha, show 9 + 7 * i = 8 + 7 * i + 1 by omega]; exact q_up_s _ _ _
    have ho : ∀ x, x ≠ 9 + 7 * i → ha x = h x := fun x hx => by rw [eha]; exact q_up_n _ (by omega)
    rw [show 8 + 7 * i + 1 = 9 + 7 * i by omega]
    refine e_dup (pc := 61) d_zs_init_61 rfl ?_
    refine e_callIN (b := 9 + 7 * i) (As := []) (st := [.ref (9 + 7 * i), .int (nI i), .ref 2]) (cc2 := 7 * g + 12) (ss2 := 895 * g + 1100) (pc := 62) d_zs_init_62 cm_zs_38 (c_sv_init htr (N := 9 + 7 * i) hn) rfl (by decide) (by decide) (by omega) (by omega) (Nat.le_of_ble_eq_true rfl) (fun _ _ _ hq => nomatch hq.1) (fun r hb N1 hq => ?_)
    obtain ⟨hr, eN, hS, hT2, hfr⟩ := hq
    cases hr
    subst eN
    show q_Ev l G m_zs_init 3 63 (7 * g + 12) (895 * g + 1100) 65 [some (.ref 1), some (.int (nI i))] [.ref (9 + 7 * i), .int (nI i), .ref 2] hb (9 + 7 * i + 6) _
    have hall : ∀ x, x < 9 + 7 * i → hb x = h x := fun x hx => (hfr x hx).trans (ho x (by omega))
    refine e_aastN (pc := 65) d_zs_init_65 ((hall 2 (by omega)).trans i2) hS.1 rfl (fun _ => rfl) hj (by decide) ?_
    rw [pre_s]
    refine e_iincN (pc := 66) d_zs_init_66 (a := i) (b := 1) rfl rfl (by decide) ?_
    refine e_goto (pc := 69) (tgt := 48) d_zs_init_69 (by decide) ?_
    rw [show 9 + 7 * i + 6 = 8 + 7 * (i + 1) by omega]
    have hz : ∀ x, x ≠ 2 → x < 9 + 7 * i → q_up hb 2 (q_ar 3 3 (pre (fun k => 9 + 7 * k) (i + 1))) x = h x := fun x h1 h2 => (q_up_n _ h1).trans (hall x h2)
    refine ih (i + 1) _ (by omega) ⟨(hz 1 (by decide) (by omega)).trans i1, q_up_s _ _ _, (hz 3 (by decide) (by omega)).trans i3, iT.fr (fun x h1 h2 => hz x (by omega) (by omega)), fun k hk => ?_⟩
    by_cases c : k = i
    · subst c
      exact ⟨hS.fr (fun x h1 h2 => q_up_n _ (by omega)), hT2.fr (fun x h1 h2 => q_up_n _ (by omega))⟩
    · exact ⟨(iV k (by omega)).1.fr (fun x h1 h2 => hz x (by omega) (by omega)), (iV k (by omega)).2.fr (fun x h1 h2 => hz x (by omega) (by omega))⟩
set_option maxHeartbeats 4000000 in
set_option maxRecDepth 100000 in
theorem c_zs_init {l : Launch} {G : q_G} (htr : l.stackTraces = false) {h : q_H} (ho : h 1 = some (.inr (4, [.null, .null, .null, .int 0, .int 0, .int 0]))) : q_Met l G m_zs_init 3 63 40 4616 [.ref (1)] h 1 (fun o h' N' => o = .inl none ∧ N' = 41 ∧ h' = zs_put h' R00) := by
  refine q_Met.mk htr (by decide +kernel) rfl (List.forall_mem_cons.mpr ⟨rfl, fun _ h => nomatch h⟩) (Nat.le_of_ble_eq_true rfl) ?_
  refine e_aload_n (pc := 0) d_zs_init_0 rfl ?_
  refine e_objInit (pc := 1) d_zs_init_1 k_21 k_22 k_23 (by decide) (Nat.le_of_ble_eq_true rfl) ?_
  refine e_aload_n (pc := 4) d_zs_init_4 rfl ?_
  refine e_iconst (pc := 5) d_zs_init_5 (v := (nI (3))) rfl ?_
  refine e_newR (pc := 6) (t := 3) (n' := 3) (cc' := 39) (ss' := 4613) d_zs_init_6 k_24 (by decide) (fun _ => rfl) (nI_pos (by decide)) (nI_clamp (by decide)) (by decide) (by omega) (by omega) ?_
  obtain ⟨h1, eh2⟩ : ∃ x, x = q_up h (2) (q_ar 3 3 (fun _ => none)) := ⟨_, rfl⟩
  refine q_Ev.hp (h1 := h1) eh2 ?_
  have hc3 : h1 (1) = some (.inr (4, [.null, .null, .null, .int (0), .int (0), .int (0)])) := by rw [eh2, q_up_n _ (show (1 : Nat) ≠ 2 by omega)]; exact ho
  have hc4 : h1 (2) = some (q_ar 3 3 (fun _ => none)) := by rw [eh2]; exact q_up_s _ _ _
  show q_Ev l G m_zs_init 3 63 39 4613 9 [some (.ref (1)), none] [.ref (2), .ref (1)] h1 2 _
  refine e_putFE (pc := 9) d_zs_init_9 (fs2 := [.ref (2), .null, .null, .int (0), .int (0), .int (0)]) fl_zs_11 rfl rfl hc3 (Nat.le_of_ble_eq_true rfl) (fun _ => rfl) (fun _ => rfl) rfl ?_
  obtain ⟨h5, eh6⟩ : ∃ x, x = q_up h1 (1) (.inr (4, [.ref (2), .null, .null, .int (0), .int (0), .int (0)])) := ⟨_, rfl⟩
  rw [← eh6]
  have hc7 : h5 (1) = some (.inr (4, [.ref (2), .null, .null, .int (0), .int (0), .int (0)])) := by rw [eh6]; exact q_up_s _ _ _
  have hc8 : h5 (2) = some (q_ar 3 3 (fun _ => none)) := by rw [eh6, q_up_n _ (show (2 : Nat) ≠ 1 by omega)]; exact hc4
  refine e_aload_n (pc := 12) d_zs_init_12 rfl ?_
  refine e_iconst (pc := 13) d_zs_init_13 (v := (nI (4))) rfl ?_
  refine e_newR (pc := 14) (t := 4) (n' := 4) (cc' := 38) (ss' := 4609) d_zs_init_14 k_26 (by decide) (fun _ => rfl) (nI_pos (by decide)) (nI_clamp (by decide)) (by decide) (by omega) (by omega) ?_
  obtain ⟨h9, eh10⟩ : ∃ x, x = q_up h5 (3) (q_ar 4 4 (fun _ => none)) := ⟨_, rfl⟩
  refine q_Ev.hp (h1 := h9) eh10 ?_
  have hc11 : h9 (1) = some (.inr (4, [.ref (2), .null, .null, .int (0), .int (0), .int (0)])) := by rw [eh10, q_up_n _ (show (1 : Nat) ≠ 3 by omega)]; exact hc7
  have hc12 : h9 (2) = some (q_ar 3 3 (fun _ => none)) := by rw [eh10, q_up_n _ (show (2 : Nat) ≠ 3 by omega)]; exact hc8
  have hc13 : h9 (3) = some (q_ar 4 4 (fun _ => none)) := by rw [eh10]; exact q_up_s _ _ _
  show q_Ev l G m_zs_init 3 63 38 4609 17 [some (.ref (1)), none] [.ref (3), .ref (1)] h9 3 _
  refine e_putFE (pc := 17) d_zs_init_17 (fs2 := [.ref (2), .ref (3), .null, .int (0), .int (0), .int (0)]) fl_zs_17 rfl rfl hc11 (Nat.le_of_ble_eq_true rfl) (fun _ => rfl) (fun _ => rfl) rfl ?_
  obtain ⟨h14, eh15⟩ : ∃ x, x = q_up h9 (1) (.inr (4, [.ref (2), .ref (3), .null, .int (0), .int (0), .int (0)])) := ⟨_, rfl⟩
  rw [← eh15]
  have hc16 : h14 (1) = some (.inr (4, [.ref (2), .ref (3), .null, .int (0), .int (0), .int (0)])) := by rw [eh15]; exact q_up_s _ _ _
  have hc17 : h14 (2) = some (q_ar 3 3 (fun _ => none)) := by rw [eh15, q_up_n _ (show (2 : Nat) ≠ 1 by omega)]; exact hc12
  have hc18 : h14 (3) = some (q_ar 4 4 (fun _ => none)) := by rw [eh15, q_up_n _ (show (3 : Nat) ≠ 1 by omega)]; exact hc13
  refine e_aload_n (pc := 20) d_zs_init_20 rfl ?_
  refine e_new (pc := 21) (cc' := 37) (ss' := 4605) d_zs_init_21 nw_zs_21 (by omega) (by omega) ?_
  obtain ⟨h19, eh20⟩ : ∃ x, x = q_up h14 (4) (.inr (3, [.null, .null, .null, .null])) := ⟨_, rfl⟩
  refine q_Ev.hp (h1 := h19) eh20 ?_
  have hc21 : h19 (1) = some (.inr (4, [.ref (2), .ref (3), .null, .int (0), .int (0), .int (0)])) := by rw [eh20, q_up_n _ (show (1 : Nat) ≠ 4 by omega)]; exact hc16
  have hc22 : h19 (2) = some (q_ar 3 3 (fun _ => none)) := by rw [eh20, q_up_n _ (show (2 : Nat) ≠ 4 by omega)]; exact hc17
  have hc23 : h19 (3) = some (q_ar 4 4 (fun _ => none)) := by rw [eh20, q_up_n _ (show (3 : Nat) ≠ 4 by omega)]; exact hc18
  have hc24 : h19 (4) = some (.inr (3, [.null, .null, .null, .null])) := by rw [eh20]; exact q_up_s _ _ _
  show q_Ev l G m_zs_init 3 63 37 4605 24 [some (.ref (1)), none] [.ref (4), .ref (1)] h19 4 _
  refine e_dup (pc := 24) d_zs_init_24 rfl ?_
  refine e_callI (b := 4) (As := []) (st := [.ref (4), .ref (1)]) (cc2 := 33) (ss2 := 3785) (pc := 25) d_zs_init_25 ci_zs_23 (c_tr_init htr (N := 4) hc24) rfl (by decide) (by decide) (by omega) (by omega) (Nat.le_of_ble_eq_true rfl) (fun _ _ _ hq => nomatch hq.1) (fun r g1 N1 hq => ?_)
  obtain ⟨hr, eN, hT, hfr⟩ := hq
  cases hr
  subst eN
  show q_Ev l G m_zs_init 3 63 33 3785 28 [some (.ref (1)), none] [.ref (4), .ref (1)] g1 8 _
  refine e_putFE (pc := 28) d_zs_init_28 (fs2 := [.ref (2), .ref (3), .ref (4), .int (0), .int (0), .int (0)]) fl_zs_24 rfl rfl ((hfr (1) (by omega)).trans hc21) (Nat.le_of_ble_eq_true rfl) (fun _ => rfl) (fun _ => rfl) rfl ?_
  obtain ⟨h25, eh26⟩ : ∃ x, x = q_up g1 (1) (.inr (4, [.ref (2), .ref (3), .ref (4), .int (0), .int (0), .int (0)])) := ⟨_, rfl⟩
  rw [← eh26]
  have hc27 : h25 (1) = some (.inr (4, [.ref (2), .ref (3), .ref (4), .int (0), .int (0), .int (0)])) := by rw [eh26]; exact q_up_s _ _ _
  have hc28 : h25 (2) = some (q_ar 3 3 (fun _ => none)) := by rw [eh26, q_up_n _ (show (2 : Nat) ≠ 1 by omega)]; exact ((hfr (2) (by omega)).trans hc22)
  have hc29 : h25 (3) = some (q_ar 4 4 (fun _ => none)) := by rw [eh26, q_up_n _ (show (3 : Nat) ≠ 1 by omega)]; exact ((hfr (3) (by omega)).trans hc23)
  refine e_aload_n (pc := 31) d_zs_init_31 rfl ?_
  refine e_iconst (pc := 32) d_zs_init_32 (v := (nI (0))) rfl ?_
  refine e_putE (pc := 33) d_zs_init_33 (fs2 := [.ref (2), .ref (3), .ref (4), .int (nI (0)), .int (0), .int (0)]) fl_zs_28 hc27 (Nat.le_of_ble_eq_true rfl) (fun _ => rfl) (fun _ => rfl) rfl ?_
  obtain ⟨h30, eh31⟩ : ∃ x, x = q_up h25 (1) (.inr (4, [.ref (2), .ref (3), .ref (4), .int (nI (0)), .int (0), .int (0)])) := ⟨_, rfl⟩
  rw [← eh31]
  have hc32 : h30 (1) = some (.inr (4, [.ref (2), .ref (3), .ref (4), .int (nI (0)), .int (0), .int (0)])) := by rw [eh31]; exact q_up_s _ _ _
  have hc33 : h30 (2) = some (q_ar 3 3 (fun _ => none)) := by rw [eh31, q_up_n _ (show (2 : Nat) ≠ 1 by omega)]; exact hc28
  have hc34 : h30 (3) = some (q_ar 4 4 (fun _ => none)) := by rw [eh31, q_up_n _ (show (3 : Nat) ≠ 1 by omega)]; exact hc29
  refine e_aload_n (pc := 36) d_zs_init_36 rfl ?_
  refine e_iconst (pc := 37) d_zs_init_37 (v := (nI (1))) rfl ?_
  refine e_putE (pc := 38) d_zs_init_38 (fs2 := [.ref (2), .ref (3), .ref (4), .int (nI (0)), .int (nI (1)), .int (0)]) fl_zs_32 hc32 (Nat.le_of_ble_eq_true rfl) (fun _ => rfl) (fun _ => rfl) rfl ?_
  obtain ⟨h35, eh36⟩ : ∃ x, x = q_up h30 (1) (.inr (4, [.ref (2), .ref (3), .ref (4), .int (nI (0)), .int (nI (1)), .int (0)])) := ⟨_, rfl⟩
  rw [← eh36]
  have hc37 : h35 (1) = some (.inr (4, [.ref (2), .ref (3), .ref (4), .int (nI (0)), .int (nI (1)), .int (0)])) := by rw [eh36]; exact q_up_s _ _ _
  have hc38 : h35 (2) = some (q_ar 3 3 (fun _ => none)) := by rw [eh36, q_up_n _ (show (2 : Nat) ≠ 1 by omega)]; exact hc33
  have hc39 : h35 (3) = some (q_ar 4 4 (fun _ => none)) := by rw [eh36, q_up_n _ (show (3 : Nat) ≠ 1 by omega)]; exact hc34
  refine e_aload_n (pc := 41) d_zs_init_41 rfl ?_
  refine e_iconst (pc := 42) d_zs_init_42 (v := (nI (0))) rfl ?_
  refine e_putE (pc := 43) d_zs_init_43 (fs2 := [.ref (2), .ref (3), .ref (4), .int (nI (0)), .int (nI (1)), .int (nI (0))]) fl_zs_35 hc37 (Nat.le_of_ble_eq_true rfl) (fun _ => rfl) (fun _ => rfl) rfl ?_
  obtain ⟨h40, eh41⟩ : ∃ x, x = q_up h35 (1) (.inr (4, [.ref (2), .ref (3), .ref (4), .int (nI (0)), .int (nI (1)), .int (nI (0))])) := ⟨_, rfl⟩
  rw [← eh41]
  have hc42 : h40 (1) = some (.inr (4, [.ref (2), .ref (3), .ref (4), .int (nI (0)), .int (nI (1)), .int (nI (0))])) := by rw [eh41]; exact q_up_s _ _ _
  have hc43 : h40 (2) = some (q_ar 3 3 (fun _ => none)) := by rw [eh41, q_up_n _ (show (2 : Nat) ≠ 1 by omega)]; exact hc38
  have hc44 : h40 (3) = some (q_ar 4 4 (fun _ => none)) := by rw [eh41, q_up_n _ (show (3 : Nat) ≠ 1 by omega)]; exact hc39
  refine e_iconst (pc := 46) d_zs_init_46 (v := (nI (0))) rfl ?_
  refine e_istore_n (pc := 47) d_zs_init_47 (by decide) ?_
  have hI : zI1 0 h40 := ⟨hc42, by rw [show pre (fun k => 9 + 7 * k) 0 = fun _ => none by funext k; simp [pre]]; exact hc43, hc44, hT.fr (fun x h1 h2 => by subst_vars; simp only [q_up]; (repeat' rw [if_neg (by omega)])), fun k hk => absurd hk (by omega)⟩
  exact q_Ev.room (lp_zs_init1 htr 3 0 _ rfl hI) (Nat.le_refl _) (Nat.le_refl _) (by decide) (by decide)

/-! THE CLASS: planAnew, proposeChange, closeDueSessions -/
/-- the first n of server k's LOG are planned anew -/
def plK (E : Nat → zE) (k : Nat) (R : zR) : Nat → zT
  | 0 => (fillN (z_P R).1 259 (nI 0), upd (fillN (z_P R).2.1 259 (-1)) 0 (nI 0), fillN (z_P R).2.2.1 259 (-1), fillN (z_P R).2.2.2 43 (nI 0))
  | n + 1 => playR (E ((v_lf (z_V R k) n).getD 0)) (plK E k R n)
def z_full (R : zR) : Bool := match z_ld R with
  | none => true
  | some k => decide (60 ≤ v_ln (z_V R k))
theorem zOK_apP {h : q_H} {E : Nat → zE} {R : zR} (hO : zOK h E R) {a : Nat} (ha : 41 < a) (he : en_Is h a (E a)) (hk : eOK (E a)) (hl : ∀ k, z_ld R = some k → v_ln (z_V R k) < 64) : zOK h E (apP a (E a) R) := by
  unfold apP
  split
  · exact hO
  · next k hk9 =>
    refine ⟨hO.1, hO.2.1, hO.2.2.1, fun i hi => ?_⟩
    by_cases c : i = k
    · subst c
      simp only [z_sP, z_V, z_sV, va_up, if_true]
      refine ⟨⟨hl i hk9, fun n hn => ?_⟩, (hO.2.2.2 i hi).2⟩
      by_cases c2 : n = v_ln (z_V R i)
      · subst c2
        exact ⟨a, by simp [v_lf, va_up], ha, he, hk⟩
      · obtain ⟨b, h1, h2⟩ := (hO.2.2.2 i hi).1.2 n (by have hn2 : n < v_ln (z_V R i) + 1 := hn; omega)
        exact ⟨b, by simp only [v_lf, va_up, if_neg c2]; exact h1, h2⟩
    · simp only [z_sP, z_V, z_sV, va_up, if_neg c]
      exact hO.2.2.2 i hi
theorem zEn_ext {h h2 : q_H} {E E2 : Nat → zE} {v : zV} (hE : zEn h E v) (hx : ∀ a, 41 < a → ∀ e, h a = some e → h2 a = some e ∧ E2 a = E a) : zEn h2 E2 v := ⟨hE.1, fun j hj => by
  obtain ⟨a, h1, h2, h3, h4⟩ := hE.2 j hj
  obtain ⟨g1, g2⟩ := hx a h2 _ h3
  exact ⟨a, h1, h2, by unfold en_Is; rw [g2]; exact g1, by rw [g2]; exact h4⟩⟩
theorem zOK_ext {h h2 : q_H} {E E2 : Nat → zE} {R : zR} (hO : zOK h E R) (hx : ∀ a, 41 < a → ∀ e, h a = some e → h2 a = some e ∧ E2 a = E a) : zOK h2 E2 R := ⟨hO.1, hO.2.1, hO.2.2.1, fun i hi => ⟨zEn_ext (hO.2.2.2 i hi).1 hx, (hO.2.2.2 i hi).2⟩⟩
/-- a new ENTRY's cell -/
def en_ob (e : zE) : q_E := .inr (0, [.int (nI e.1), .int (nI e.2.1), .int e.2.2.1, .int e.2.2.2.1, .int (bI e.2.2.2.2)])
theorem zOK_new {h : q_H} {E : Nat → zE} {R : zR} (hO : zOK h E R) {a : Nat} (ha : h a = none) (e : zE) : zOK (q_up h a (en_ob e)) (va_up E a e) R := zOK_ext hO (fun b _ x hx => by
  have c : b ≠ a := fun q => by rw [q, ha] at hx; cases hx
  exact ⟨by rw [q_up_n _ c]; exact hx, by simp [va_up, c]⟩)
set_option maxHeartbeats 4000000 in
set_option maxRecDepth 100000 in
theorem lp_zs_planAnew {l : Launch} {G : q_G} (htr : l.stackTraces = false) {h : q_H} {N : Nat} {R : zR} {E : Nat → zE} {k : Nat} (hk : k < 3) (hE : zEn h E (z_V R k)) : ∀ (g n : Nat), v_ln (z_V R k) < n + g → n ≤ v_ln (z_V R k) → q_Ev l G m_zs_planAnew 3 65 0 0 9 [some (.ref (1)), some (.ref (9 + 7 * k)), some (.int (nI (n)))] [] (zs_put h (z_sP R (plK E k R n))) N (q_To none (zs_put h (z_sP R (plK E k R (v_ln (z_V R k))))) N) := by
  intro g
  induction g with
  | zero => intro n hg hk; omega
  | succ g ih =>
    intro n hg hn
    have h64 := hE.1
    have hV : sv_At (zs_put h (z_sP R (plK E k R n))) (9 + 7 * k) (v_lf (z_V R k)) (v_ln (z_V R k)) (v_ap (z_V R k)) (v_ag (z_V R k)) (v_up (z_V R k)) (v_al (z_V R k)) := zs_v (R := z_sP R (plK E k R n)) hk
    refine e_iload_n (pc := 9) d_zs_planAnew_9 rfl ?_
    refine e_aload_n (pc := 10) d_zs_planAnew_10 rfl ?_
    refine e_get (pc := 11) d_zs_planAnew_11 fl_zs_179 hV.1 rfl ?_
    refine e_icmp_geN (pc := 14) (tgt := 36) d_zs_planAnew_14 (by decide) (by omega) (by omega) (fun c => ?_) (fun c => ?_)
    · have hkn : n = v_ln (z_V R k) := by omega
      rw [hkn]
      exact e_vret (pc := 36) d_zs_planAnew_36 rfl (⟨rfl, rfl, rfl⟩)
    · obtain ⟨a, hla, ha, hen, hok⟩ := hE.2 n c
      refine e_aload_n (pc := 17) d_zs_planAnew_17 rfl ?_
      refine e_get (pc := 18) d_zs_planAnew_18 fl_zs_24 zs_g1 rfl ?_
      refine e_aload_n (pc := 21) d_zs_planAnew_21 rfl ?_
      refine e_get (pc := 22) d_zs_planAnew_22 fl_zs_232 hV.1 rfl ?_
      refine e_iload_n (pc := 25) d_zs_planAnew_25 rfl ?_
      refine e_aaldN (pc := 26) d_zs_planAnew_26 hV.2 (fun _ => rfl) (by omega) (by decide) hla ?_
      refine e_callV (As := [.ref (a)]) (st := []) (cc2 := 0) (ss2 := 0) (pc := 27) d_zs_planAnew_27 rfl cv_zs_226 zs_tP.1 rfl (c_tr_play htr zs_tP (en_up ha hen) hok (by omega)) rfl (by decide) (by decide) (by omega) (by omega) (Nat.le_of_ble_eq_true rfl) (fun _ _ _ hq => nomatch hq.1) (fun r h2 N2 hq => ?_)
      obtain ⟨hr, e1, e2⟩ := hq
      cases hr
      rw [e1, e2]
      clear e1 e2
      show q_Ev l G m_zs_planAnew 3 65 0 0 30 [some (.ref (1)), some (.ref (9 + 7 * k)), some (.int (nI (n)))] [] _ N _
      rw [zs_uP]
      refine e_iincN (pc := 30) d_zs_planAnew_30 (a := n) (b := 1) rfl rfl (by decide) ?_
      refine e_goto (pc := 33) (tgt := 9) d_zs_planAnew_33 (by decide) ?_
      have e1 : plK E k R (n + 1) = playR (E a) (plK E k R n) := by rw [plK, hla]; rfl
      have := ih (n + 1) (by omega) (by omega)
      rw [e1] at this
      exact this
set_option maxHeartbeats 4000000 in
set_option maxRecDepth 100000 in
theorem c_zs_planAnew {l : Launch} {G : q_G} (htr : l.stackTraces = false) {h : q_H} {N : Nat} {R : zR} {E : Nat → zE} {k : Nat} (hk : k < 3) (hE : zEn h E (z_V R k)) : q_Met l G m_zs_planAnew 3 65 0 0 [.ref (1), .ref (9 + 7 * k)] (zs_put h R) N (q_To none (zs_put h (z_sP R (plK E k R (v_ln (z_V R k))))) N) := by
  refine q_Met.mk htr (by decide +kernel) rfl (List.forall_mem_cons.mpr ⟨rfl, List.forall_mem_cons.mpr ⟨rfl, fun _ h => nomatch h⟩⟩) (Nat.le_of_ble_eq_true rfl) ?_
  refine e_aload_n (pc := 0) d_zs_planAnew_0 rfl ?_
  refine e_get (pc := 1) d_zs_planAnew_1 fl_zs_24 zs_g1 rfl ?_
  refine e_callV (As := []) (st := []) (cc2 := 0) (ss2 := 0) (pc := 4) d_zs_planAnew_4 rfl cv_zs_229 zs_tP.1 rfl (c_tr_clear htr zs_tP) rfl (by decide) (by decide) (by omega) (by omega) (Nat.le_of_ble_eq_true rfl) (fun _ _ _ hq => nomatch hq.1) (fun r h2 N2 hq => ?_)
  obtain ⟨hr, e1, e2⟩ := hq
  cases hr
  rw [e1, e2]
  clear e1 e2
  show q_Ev l G m_zs_planAnew 3 65 0 0 7 [some (.ref (1)), some (.ref (9 + 7 * k)), none] [] _ N _
  rw [zs_uP]
  refine e_iconst (pc := 7) d_zs_planAnew_7 (v := (nI (0))) rfl ?_
  refine e_istore_n (pc := 8) d_zs_planAnew_8 (by decide) ?_
  exact lp_zs_planAnew htr hk hE _ 0 (Nat.lt_of_lt_of_eq (Nat.lt_succ_self _) (Nat.zero_add _).symm) (by omega)
set_option maxHeartbeats 4000000 in
set_option maxRecDepth 100000 in
theorem c_zs_proposeChange {l : Launch} {G : q_G} (htr : l.stackTraces = false) {h : q_H} {N : Nat} {R : zR} {E : Nat → zE} (hO : zOK h E R) {a : Nat} (ha : 41 < a) (he : en_Is h a (E a)) (hk9 : eOK (E a)) : q_Met l G m_zs_proposeChange 7 115 1 6 [.ref (1), .ref (a)] (zs_put h R) N (fun o h' N' => N ≤ N' ∧ ((z_full R = true ∧ h' = zs_put h R ∧ o = .inr "java/lang/IllegalStateException") ∨ (z_full R = false ∧ h' = zs_put h (spR E (apP a (E a) R)) ∧ ((z_qr (spR E (apP a (E a) R)) = true ∧ o = .inl none ∧ N' = N) ∨ (z_qr (spR E (apP a (E a) R)) = false ∧ o = .inr "java/lang/IllegalStateException"))))) := by
  refine q_Met.mk htr (by decide +kernel) rfl (List.forall_mem_cons.mpr ⟨rfl, List.forall_mem_cons.mpr ⟨rfl, fun _ h => nomatch h⟩⟩) (Nat.le_of_ble_eq_true rfl) ?_
  refine e_aload_n (pc := 0) d_zs_proposeChange_0 rfl ?_
  refine e_get (pc := 1) d_zs_proposeChange_1 fl_zs_28 zs_g1 rfl ?_
  refine e_iconst (pc := 4) d_zs_proposeChange_4 (v := (-1)) rfl ?_
  refine e_icmp_eq (pc := 5) (tgt := 25) d_zs_proposeChange_5 (by decide) (fun c => ?_) (fun c => ?_)
  · have hl := (ldI_m1 hO.1).mp c
    exact e_throw (pc := 25) rfl xx_zs_66 d_zs_proposeChange_25 d_zs_proposeChange_28 d_zs_proposeChange_29 d_zs_proposeChange_32 (by decide) (Nat.le_of_ble_eq_true rfl) (by omega) (by omega) (fun N2 hN => ⟨hN, Or.inl ⟨by simp only [z_full, hl], rfl, rfl⟩⟩)
  · obtain ⟨k, hl⟩ : ∃ k, z_ld R = some k := by cases hx : z_ld R with | none => exact absurd (by rw [hx]; rfl) c | some k => exact ⟨k, rfl⟩
    have hk := hO.1 k hl
    have h64 := (hO.2.2.2 k hk).1.1
    refine e_aload_n (pc := 8) d_zs_proposeChange_8 rfl ?_
    refine e_get (pc := 9) d_zs_proposeChange_9 fl_zs_11 zs_g1 rfl ?_
    refine e_aload_n (pc := 12) d_zs_proposeChange_12 rfl ?_
    refine e_get (pc := 13) d_zs_proposeChange_13 fl_zs_28 zs_g1 rfl ?_
    rw [show ldI (z_ld R) = nI k by rw [hl]; rfl]
    refine e_aaldN (pc := 16) d_zs_proposeChange_16 zs_g2 (fun _ => rfl) (by omega) (by decide) rfl ?_
    refine e_get (pc := 17) d_zs_proposeChange_17 fl_zs_179 (zs_v hk).1 rfl ?_
    refine e_bipush (pc := 20) d_zs_proposeChange_20 (v := (nI (60))) rfl ?_
    refine e_icmp_ltN (pc := 22) (tgt := 33) d_zs_proposeChange_22 (by decide) (by omega) (by omega) (fun c2 => ?_) (fun c2 => ?_)
    · have hf : z_full R = false := by simp only [z_full, hl]; exact decide_eq_false (by omega)
      have hl64 : ∀ k, z_ld R = some k → v_ln (z_V R k) < 64 := fun k2 h2 => by rw [hl] at h2; cases h2; omega
      refine e_aload_n (pc := 33) d_zs_proposeChange_33 rfl ?_
      refine e_aload_n (pc := 34) d_zs_proposeChange_34 rfl ?_
      refine e_callV (As := [.ref (a)]) (st := []) (cc2 := 1) (ss2 := 6) (pc := 35) d_zs_proposeChange_35 rfl cv_zs_220 zs_g1 rfl (c_zs_appendAndPlan htr hO.1 ha he hk9 hl64) rfl (by decide) (by decide) (by omega) (by omega) (Nat.le_of_ble_eq_true rfl) (fun _ _ _ hq => nomatch hq.1) (fun r h2 N2 hq => ?_)
      obtain ⟨hr, e1, e2⟩ := hq
      cases hr
      rw [e1, e2]
      clear e1 e2
      show q_Ev l G m_zs_proposeChange 7 115 1 6 38 [some (.ref (1)), some (.ref (a))] [] _ N _
      have hO1 := zOK_apP hO ha he hk9 hl64
      refine e_aload_n (pc := 38) d_zs_proposeChange_38 rfl ?_
      refine e_callV (As := []) (st := []) (cc2 := 1) (ss2 := 6) (pc := 39) d_zs_proposeChange_39 rfl cv_zs_182 zs_g1 rfl (c_zs_spread htr hO1) rfl (by decide) (by decide) (by omega) (by omega) (Nat.le_of_ble_eq_true rfl) (fun _ _ _ hq => nomatch hq.1) (fun r h2 N2 hq => ?_)
      obtain ⟨hr, e1, e2⟩ := hq
      cases hr
      rw [e1, e2]
      clear e1 e2
      show q_Ev l G m_zs_proposeChange 7 115 1 6 42 [some (.ref (1)), some (.ref (a))] [] _ N _
      refine e_aload_n (pc := 42) d_zs_proposeChange_42 rfl ?_
      refine e_callV (As := []) (st := []) (cc2 := 0) (ss2 := 0) (pc := 43) d_zs_proposeChange_43 rfl cv_zs_75 zs_g1 rfl (c_zs_requireQuorum htr (zOK_sp hO1).1) rfl (by decide) (by decide) (by omega) (by omega) (Nat.le_of_ble_eq_true rfl) (fun _ _ _ hq => ⟨hq.2.1, Or.inr ⟨hf, hq.1, hq.2.2.elim (fun z => nomatch z.2.1) (fun z => Or.inr ⟨by cases hz : z_qr (spR E (apP a (E a) R)) with | false => rfl | true => exact absurd hz z.1, z.2⟩)⟩⟩) (fun r h2 N2 hq => ?_)
      obtain ⟨e1, -, ⟨hok, hr, e2⟩ | ⟨-, hr⟩⟩ := hq; rotate_left; exact nomatch hr
      cases hr
      rw [e1, e2]
      clear e1 e2
      show q_Ev l G m_zs_proposeChange 7 115 0 0 46 [some (.ref (1)), some (.ref (a))] [] _ N _
      exact e_vret (pc := 46) d_zs_proposeChange_46 rfl (⟨Nat.le_refl _, Or.inr ⟨hf, rfl, Or.inl ⟨hok, rfl, rfl⟩⟩⟩)
    · exact e_throw (pc := 25) rfl xx_zs_66 d_zs_proposeChange_25 d_zs_proposeChange_28 d_zs_proposeChange_29 d_zs_proposeChange_32 (by decide) (Nat.le_of_ble_eq_true rfl) (by omega) (by omega) (fun N2 hN => ⟨hN, Or.inl ⟨by simp only [z_full, hl, decide_eq_true c2], rfl, rfl⟩⟩)

/-! THE LAW'S BODY, from its first row -/
theorem zs_eq {h : q_H} {R : zR} {g : q_H} (hh : h = zs_put h R) (hg : ∀ a, a < 42 → g a = h a) : zs_put g R = g := by
  funext a
  by_cases c : a < 42
  · have h1 := congrFun hh a
    rw [hg a c]
    unfold zs_put at h1 ⊢
    cases e : zc R a with
    | none => exact hg a c
    | some v =>
      rw [e] at h1
      exact h1.symm
  · exact zs_hi (by omega)
set_option maxHeartbeats 1000000 in
theorem law_body {l : Launch} {G : q_G} (htr : l.stackTraces = false) (hL : G.2.2.2.2.1 ≤ 2560) : q_Ev l G m_lw_law 10 191 (66 + 16 * 513) (9048 + 96 * 513) 0 (q_in0 [.ref 0] 7) [] (fun _ => none) 0 Ql := by
  refine e_new (pc := 0) (cc' := 65 + 16 * 513) (ss' := 9042 + 96 * 513) d_lw_law_0 nw_lw_8 (by decide) (by decide) ?_
  refine e_dup (pc := 3) d_lw_law_3 rfl ?_
  refine e_callI (pc := 4) (cc2 := 25 + 16 * 513) (ss2 := 4426 + 96 * 513) (As := []) (st := [.ref 1]) d_lw_law_4 ci_lw_84 (c_zs_init htr (q_up_s _ _ _)) rfl (by decide) (Nat.le_of_ble_eq_true rfl) (by decide) (by decide) (by decide) (fun E h' N' hq => (by exact nomatch hq.1)) (fun rr h' N' hq => ?_)
  obtain ⟨a1, a2, a3⟩ := hq
  have a4 : rr = none := Sum.inl.inj a1
  subst a4
  subst a2
  refine e_astore_n (pc := 7) d_lw_law_7 (by decide) ?_
  refine e_new (pc := 8) (cc' := 24 + 16 * 513) (ss' := 4399 + 96 * 513) d_lw_law_8 nw_lw_85 (by decide) (by decide) ?_
  refine e_dup (pc := 11) d_lw_law_11 rfl ?_
  refine e_callI (pc := 12) (cc2 := 1 + 16 * 513) (ss2 := 1 + 96 * 513) (As := []) (st := [.ref 42]) d_lw_law_12 ci_lw_87 (c_md_init htr (q_up_s _ _ _)) rfl (by decide) (Nat.le_of_ble_eq_true rfl) (by decide) (by decide) (by decide) (fun E h2 N' hq => (by exact nomatch hq.1)) (fun rr h2 N' hq => ?_)
  obtain ⟨b1, b2, b3, b5⟩ := hq
  have b4 : rr = none := Sum.inl.inj b1
  subst b4
  subst b2
  refine e_astore_n (pc := 15) d_lw_law_15 (by decide) ?_
  refine e_iconst (pc := 16) d_lw_law_16 (v := nI 1) rfl ?_
  refine e_newL (pc := 17) (n' := 1) (cc' := 16 * 513) (ss' := 96 * 513) d_lw_law_17 k_877 (by decide) (by decide) (by decide) (by decide) (by decide) ?_
  refine e_astore_n (pc := 19) d_lw_law_19 (by decide) ?_
  refine e_iconst (pc := 20) d_lw_law_20 (v := nI 0) rfl ?_
  refine e_istore (pc := 21) d_lw_law_21 (by decide) ?_
  refine e_fresh (fun hf _ => ?_)
  obtain ⟨g, hg⟩ : ∃ g, g = q_up h2 (65 + 1) (q_al 1 (fun _ => 0)) := ⟨_, rfl⟩
  rw [← hg] at hf ⊢
  have h66 : g 66 = some (q_al 1 (fun _ => 0)) := by rw [hg]; exact q_up_s _ _ _
  have hgz : ∀ a, a < 42 → g a = h' a := fun a ha => by
    rw [hg, q_up_n _ (by omega), b5 a ha, q_up_n _ (by omega)]
  have hzs := zs_eq a3 hgz
  have hI : LSt (g, (fun _ => (0, 0, 0, 0, false)), 66, R00) M00 (fun _ => 0) := ⟨INV_0 (by decide) hf, md_of_eq b3 (fun a ha => by show g a = h2 a; rw [hg, q_up_n _ (by omega)]), h66, Nat.le_refl _⟩
  have K := lw_loop htr hL 513 0 (g, (fun _ => (0, 0, 0, 0, false)), 66, R00) M00 (fun _ => 0) none none hI (show 1 + 513 < 100000 by decide) (by omega) (by decide)
  have K2 : q_Ev l G m_lw_law 10 191 (16 * 513) (96 * 513) 23 (lvL 0 none none) [] (zs_put g R00) 66 Ql := K
  rw [hzs] at K2
  exact K2

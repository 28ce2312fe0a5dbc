/-! get, exists, children, fact, event, state, count -/
theorem INV_T {x : zX} {A : mA} {L : mL} {S : mS} {C : mC} {W : mW} {T T' : mT} (h : INV x (A, L, S, C, W, T)) : INV x (A, L, S, C, W, T') := h
theorem wv_o1 {a b : Bool} : wv a b ||| nI 1 = wv true b := by cases a <;> cases b <;> decide
theorem wv_o2 {a b : Bool} : wv a b ||| nI 2 = wv a true := by cases a <;> cases b <;> decide
theorem INV_wd {x : zX} {A : mA} {L : mL} {S : mS} {C : mC} {W : mW} {T T' : mT} {j p : Nat} {b : Bool} (h : INV x (A, L, S, C, W, T)) (hj : j < 4) (hp : p < 259) (hop : C.1 j = true) : INV (x_sR x (z_w1 (x_R x) j p (nI 1) b)) (m_wd b j p (A, L, S, C, W, T')) := by
  cases b with
  | false => exact h
  | true =>
    obtain ⟨r1, r2, r3, r4⟩ := h.1.2.2.1
    obtain ⟨q1, q2, q3, q4, q5⟩ := r3 j hj
    have hw := WR_set (p := p) (v := (s_X (z_S (x_R x) j)).1 p ||| nI 1) (a := true) (b := W.2.1 (259 * j + p)) q5 (by rw [q5.1 p hp]; exact wv_o1)
    rw [up_id rfl] at hw
    exact INV_S (y := ((upd (s_X (z_S (x_R x) j)).1 p ((s_X (z_S (x_R x) j)).1 p ||| nI 1), (s_X (z_S (x_R x) j)).2), (z_S (x_R x) j).2)) (T' := T') h (h.1.1.1.2.1 j).1 ⟨q1, q2, q3, q4, hw⟩ (fun k hk hc => ⟨rfl, rfl, rfl, rfl, fun q hq => up_n (by omega), fun q hq => rfl, rfl, fun _ _ => rfl⟩) (fun z => by have z2 : s_op (z_S (x_R x) j) = false := z; rw [q1] at z2; exact absurd (hop.symm.trans z2) (by decide)) rfl rfl
theorem INV_wc {x : zX} {A : mA} {L : mL} {S : mS} {C : mC} {W : mW} {T T' : mT} {j p : Nat} {b : Bool} (h : INV x (A, L, S, C, W, T)) (hj : j < 4) (hp : p < 259) (hop : C.1 j = true) : INV (x_sR x (z_w1 (x_R x) j p (nI 2) b)) (m_wc b j p (A, L, S, C, W, T')) := by
  cases b with
  | false => exact h
  | true =>
    obtain ⟨r1, r2, r3, r4⟩ := h.1.2.2.1
    obtain ⟨q1, q2, q3, q4, q5⟩ := r3 j hj
    have hw := WR_set (p := p) (v := (s_X (z_S (x_R x) j)).1 p ||| nI 2) (a := W.1 (259 * j + p)) (b := true) q5 (by rw [q5.1 p hp]; exact wv_o2)
    rw [up_id (f := W.1) rfl] at hw
    exact INV_S (y := ((upd (s_X (z_S (x_R x) j)).1 p ((s_X (z_S (x_R x) j)).1 p ||| nI 2), (s_X (z_S (x_R x) j)).2), (z_S (x_R x) j).2)) (T' := T') h (h.1.1.1.2.1 j).1 ⟨q1, q2, q3, q4, hw⟩ (fun k hk hc => ⟨rfl, rfl, rfl, rfl, fun q hq => rfl, fun q hq => up_n (by omega), rfl, fun _ _ => rfl⟩) (fun z => by have z2 : s_op (z_S (x_R x) j) = false := z; rw [q1] at z2; exact absurd (hop.symm.trans z2) (by decide)) rfl rfl
theorem cn_op {M : mR} {j : Nat} (h : m_cn M j = true) : M.2.2.2.1.1 j = true := by
  unfold m_cn at h
  exact (Bool.and_eq_true_iff.mp h).1
/-- the tree that session j looks at -/
theorem IV_tr {x : zX} {M : mR} {j : Nat} (h : IV x M) (hj : j < 4) : ∃ T', m_lookT j M = (M.1, M.2.1, M.2.2.1, M.2.2.2.1, M.2.2.2.2.1, T') ∧ TR (M.2.2.1.2.1 (M.2.2.2.1.2.2.1 j)) (z_tr (x_R x) j) T' ∧ M.2.2.1.2.1 (M.2.2.2.1.2.2.1 j) < 2 ^ 31 := by
  obtain ⟨h1, h2⟩ := IV_sv h hj
  refine ⟨_, rfl, ?_, ?_⟩
  · unfold z_tr
    rw [h1]
    exact h.2.2.1.2.2.2 _ h2 _
  · obtain ⟨-, t, -, b⟩ := h.2.2.2.1 _ h2
    have := RI_ap h.2.2.2.2.1 h2
    omega
theorem eq_get {x : zX} {M : mR} {s q : Int32} {b : Bool} (h : INV x M) : Ag [IAE, ISE, NSE] (z_get s q b x) (m_get s q b M) := by
  unfold z_get m_get
  by_cases c : (nI 0 ≤ s ∧ s ≤ nI 3) ∧ (nI 0 ≤ q ∧ q ≤ nI 258)
  · rw [if_pos c, if_pos c]
    have hs := (nT_le (by decide) c.1).1
    have hq := (nT_le (by decide) c.2).1
    obtain ⟨A, L, S, C, W, T⟩ := M
    rw [IV_cn h.1 (show nT s < 4 by omega)]
    by_cases c2 : m_cn (A, L, S, C, W, T) (nT s) = true
    · rw [if_pos c2, if_pos c2]
      obtain ⟨T', e1, e2, e3⟩ := IV_tr h.1 (show nT s < 4 by omega)
      rw [e1]
      dsimp only
      have e4 := TRq_t e3 (e2.1 (nT q) (by omega))
      by_cases c3 : T'.1 (nT q) = true
      · have c4 : (z_tr (x_R x) (nT s)).2.1 (nT q) ≠ -1 := by rw [e4] at c3; exact of_decide_eq_true c3
        rw [if_pos c4, if_pos c3]
        have e5 : T'.2.1 (nT q) = (z_tr (x_R x) (nT s)).1 (nT q) := by
          rcases e2.1 (nT q) (by omega) with ⟨-, -, z, -⟩ | ⟨z, -⟩
          · exact z
          · rw [c3] at z; exact nomatch z
        rw [e5]
        exact Ag_E (INV_wd h (by omega) (by omega) (cn_op c2))
      · have c4 : ¬ (z_tr (x_R x) (nT s)).2.1 (nT q) ≠ -1 := fun z => c3 (by rw [e4]; exact decide_eq_true z)
        rw [if_neg c4, if_neg c3]
        exact Ag_F (INV_T h) rfl
    · rw [if_neg c2, if_neg c2]
      exact Ag_F h rfl
  · rw [if_neg c, if_neg c]
    exact Ag_F h rfl
theorem eq_exists {x : zX} {M : mR} {s q : Int32} {b : Bool} (h : INV x M) : Ag [IAE, ISE] (z_exists s q b x) (m_exists s q b M) := by
  unfold z_exists m_exists
  by_cases c : (nI 0 ≤ s ∧ s ≤ nI 3) ∧ (nI 0 ≤ q ∧ q ≤ nI 258)
  · rw [if_pos c, if_pos c]
    have hs := (nT_le (by decide) c.1).1
    have hq := (nT_le (by decide) c.2).1
    obtain ⟨A, L, S, C, W, T⟩ := M
    rw [IV_cn h.1 (show nT s < 4 by omega)]
    by_cases c2 : m_cn (A, L, S, C, W, T) (nT s) = true
    · rw [if_pos c2, if_pos c2]
      obtain ⟨T', e1, e2, e3⟩ := IV_tr h.1 (show nT s < 4 by omega)
      rw [e1]
      dsimp only
      rw [← TRq_t e3 (e2.1 (nT q) (by omega))]
      exact Ag_E (INV_wd h (by omega) (by omega) (cn_op c2))
    · rw [if_neg c2, if_neg c2]
      exact Ag_F h rfl
  · rw [if_neg c, if_neg c]
    exact Ag_F h rfl
theorem kidB_c {f g : Nat → Bool} {p : Nat} : ∀ n, (∀ k, k < n → f (6 * p + k + 1) = g (6 * p + k + 1)) → kidB f p n = kidB g p n := by
  intro n
  induction n with
  | zero => intro _; rfl
  | succ n ih => intro h; unfold kidB; rw [ih (fun k hk => h k (by omega)), h n (by omega)]
theorem eq_children {x : zX} {M : mR} {s q : Int32} {b : Bool} (h : INV x M) : Ag [IAE, ISE, NSE] (z_children s q b x) (m_children s q b M) := by
  unfold z_children m_children
  by_cases c : (nI 0 ≤ s ∧ s ≤ nI 3) ∧ (nI 0 ≤ q ∧ q ≤ nI 42)
  · rw [if_pos c, if_pos c]
    have hs := (nT_le (by decide) c.1).1
    have hq := (nT_le (by decide) c.2).1
    obtain ⟨A, L, S, C, W, T⟩ := M
    rw [IV_cn h.1 (show nT s < 4 by omega)]
    by_cases c2 : m_cn (A, L, S, C, W, T) (nT s) = true
    · rw [if_pos c2, if_pos c2]
      obtain ⟨T', e1, e2, e3⟩ := IV_tr h.1 (show nT s < 4 by omega)
      rw [e1]
      dsimp only
      have e4 := TRq_t e3 (e2.1 (nT q) (by omega))
      by_cases c3 : T'.1 (nT q) = true
      · have c4 : (z_tr (x_R x) (nT s)).2.1 (nT q) ≠ -1 := by rw [e4] at c3; exact of_decide_eq_true c3
        rw [if_pos c4, if_pos c3]
        have e5 : kidB (fun q => decide ((z_tr (x_R x) (nT s)).2.1 q ≠ -1)) (nT q) 6 = kidB T'.1 (nT q) 6 := kidB_c 6 (fun k hk => (TRq_t e3 (e2.1 _ (by omega))).symm)
        rw [e5]
        exact Ag_E (INV_wc h (by omega) (by omega) (cn_op c2))
      · have c4 : ¬ (z_tr (x_R x) (nT s)).2.1 (nT q) ≠ -1 := fun z => c3 (by rw [e4]; exact decide_eq_true z)
        rw [if_neg c4, if_neg c3]
        exact Ag_F (INV_T h) rfl
    · rw [if_neg c2, if_neg c2]
      exact Ag_F h rfl
  · rw [if_neg c, if_neg c]
    exact Ag_F h rfl
theorem eq_fact {x : zX} {M : mR} {s q w : Int32} (h : INV x M) : Ag [IAE, ISE, NSE] (z_fact s q w x) (m_fact s q w M) := by
  unfold z_fact m_fact
  by_cases c : (nI 0 ≤ s ∧ s ≤ nI 3) ∧ (nI 0 ≤ q ∧ q ≤ nI 258) ∧ (nI 0 ≤ w ∧ w ≤ nI 2)
  · rw [if_pos c, if_pos c]
    have hs := (nT_le (by decide) c.1).1
    have hq := (nT_le (by decide) c.2.1).1
    obtain ⟨A, L, S, C, W, T⟩ := M
    rw [IV_cn h.1 (show nT s < 4 by omega)]
    by_cases c2 : m_cn (A, L, S, C, W, T) (nT s) = true
    · rw [if_pos c2, if_pos c2]
      obtain ⟨T', e1, e2, e3⟩ := IV_tr h.1 (show nT s < 4 by omega)
      rw [e1]
      dsimp only
      have e4 := TRq_t e3 (e2.1 (nT q) (by omega))
      by_cases c3 : T'.1 (nT q) = true
      · have c4 : (z_tr (x_R x) (nT s)).2.1 (nT q) ≠ -1 := by rw [e4] at c3; exact of_decide_eq_true c3
        rw [if_pos c4, if_pos c3]
        have e5 : (if nT w = 0 then (z_tr (x_R x) (nT s)).2.1 (nT q) else if nT w = 1 then if nT q < 43 then (z_tr (x_R x) (nT s)).2.2.2 (nT q) else 0 else (z_tr (x_R x) (nT s)).2.2.1 (nT q)) = (if nT w = 0 then T'.2.2.1 (nT q) else if nT w = 1 then nI (T'.2.2.2.1 (nT q)) else T'.2.2.2.2 (nT q)) := by
          rcases e2.1 (nT q) (by omega) with ⟨-, -, -, z4, z5, z6, z7, -⟩ | ⟨z, -⟩
          · rw [z4, z5]
            by_cases c7 : nT q < 43
            · rw [if_pos c7, (z6 c7).1]
            · rw [if_neg c7, z7 (by omega)]; rfl
          · rw [c3] at z; exact nomatch z
        rw [e5]
        exact Ag_E (INV_T h)
      · have c4 : ¬ (z_tr (x_R x) (nT s)).2.1 (nT q) ≠ -1 := fun z => c3 (by rw [e4]; exact decide_eq_true z)
        rw [if_neg c4, if_neg c3]
        exact Ag_F (INV_T h) rfl
    · rw [if_neg c2, if_neg c2]
      exact Ag_F h rfl
  · rw [if_neg c, if_neg c]
    exact Ag_F h rfl
theorem esF_at {j : Nat} : ∀ (g k : Nat) (f : Nat → Int32) (i : Nat), esF j g k f i = if 8 * j + k ≤ i ∧ i < 8 * j + k + g then f (i + 1) else f i := by
  intro g
  induction g with
  | zero => intro k f i; rw [if_neg (by omega)]; rfl
  | succ g ih =>
    intro k f i
    show esF j g (k + 1) (upd f (8 * j + k) (f (8 * j + k + 1))) i = _
    rw [ih]
    by_cases c : 8 * j + (k + 1) ≤ i ∧ i < 8 * j + (k + 1) + g
    · rw [if_pos c, if_pos (by omega), upd_n (by omega)]
    · rw [if_neg c]
      by_cases c2 : i = 8 * j + k
      · rw [c2, upd_s, if_pos (by omega)]
      · rw [upd_n c2, if_neg (by omega)]
theorem eq_event {x : zX} {M : mR} {s : Int32} (h : INV x M) : Ag [IAE, ISE, NSE] (z_event s x) (m_event s M) := by
  unfold z_event m_event
  by_cases c : (nI 0 ≤ s ∧ s ≤ nI 3)
  · rw [if_pos c, if_pos c]
    have hs := (nT_le (by decide) c).1
    obtain ⟨A, L, S, C, W, T⟩ := M
    obtain ⟨r1, r2, r3, r4⟩ := h.1.2.2.1
    obtain ⟨q1, q2, q3, q4, q5⟩ := r3 (nT s) (by omega)
    dsimp only at q1 q2 q3 q4 q5 ⊢
    obtain ⟨w1, w2, w3, w4⟩ := q5
    rw [q1]
    by_cases c2 : C.1 (nT s) = true
    · rw [if_pos c2, if_pos c2, w2]
      rw [w2] at w3 w4
      by_cases c3 : W.2.2.2 (nT s) = 0
      · rw [if_pos c3, if_pos c3]
        exact Ag_F h rfl
      · rw [if_neg c3, if_neg c3, w4 0 (by omega)]
        refine Ag_E (INV_S (y := (((s_X (z_S (x_R x) (nT s))).1, shK (s_X (z_S (x_R x) (nT s))).2.1 (W.2.2.2 (nT s)), W.2.2.2 (nT s) - 1), (z_S (x_R x) (nT s)).2)) h (h.1.1.1.2.1 (nT s)).1 ⟨q1, q2, q3, q4, w1, ?_, ?_, fun k hk => ?_⟩ (fun k hk hc => ⟨rfl, rfl, rfl, rfl, fun _ _ => rfl, fun _ _ => rfl, ?_, fun e he => ?_⟩) (fun z => ?_) rfl rfl)
        · exact up_s.symm
        · show W.2.2.2 (nT s) - 1 ≤ 8
          omega
        · have hk2 : k < W.2.2.2 (nT s) - 1 := hk
          show shK (s_X (z_S (x_R x) (nT s))).2.1 (W.2.2.2 (nT s)) k = esF (nT s) (W.2.2.2 (nT s) - 1) 0 W.2.2.1 (8 * nT s + k)
          rw [esF_at, if_pos (by omega)]
          unfold shK
          rw [if_pos (by omega), w4 (k + 1) (by omega)]
          rfl
        · exact up_n hc
        · show esF (nT s) (W.2.2.2 (nT s) - 1) 0 W.2.2.1 (8 * k + e) = W.2.2.1 (8 * k + e)
          rw [esF_at, if_neg (by omega)]
        · have z2 : s_op (z_S (x_R x) (nT s)) = false := z
          rw [q1] at z2; exact absurd (c2.symm.trans z2) (by decide)
    · rw [if_neg c2, if_neg c2]
      exact Ag_F h rfl
  · rw [if_neg c, if_neg c]
    exact Ag_F h rfl
theorem Ag_0 {l : List String} {x : zX} {M M' : mR} {v v' : Int32} (h : INV x M') (hv : v = v') (hM : M' = m_fa (nI 0) M) : Ag l (zI v, x) (v', M') := by
  subst hv
  exact ⟨h, Or.inl ⟨rfl, by rw [hM]; rfl⟩⟩
theorem eq_state {x : zX} {M : mR} {i w : Int32} (h : INV x M) : Ag [IAE] (z_state i w x) (m_state i w M) := by
  unfold z_state m_state
  by_cases c : (nI 0 ≤ i ∧ i ≤ nI 2) ∧ (nI 0 ≤ w ∧ w ≤ nI 5)
  · rw [if_pos c, if_pos c]
    have hi := (nT_le (by decide) c.1).1
    obtain ⟨A, L, S, C, W, T⟩ := M
    obtain ⟨r1, r2, r3, r4⟩ := h.1.2.2.1
    obtain ⟨v1, v2, v3, v4, v5, v6⟩ := r2 (nT i) (by omega)
    obtain ⟨T', hT⟩ : ∃ T', T' = grT L (nT i) (S.2.1 (nT i)) T := ⟨_, rfl⟩
    have e1 : m_stT (nT i) (A, L, S, C, W, T) = (A, L, S, C, W, T') := by rw [hT]; rfl
    have e2 : TR (S.2.1 (nT i)) (z_T (x_R x) (nT i)) T' := by rw [hT]; exact r4 (nT i) (by omega) T
    have e3 : S.2.1 (nT i) < 2 ^ 31 := by
      obtain ⟨-, t, -, b⟩ := h.1.2.2.2.1 (nT i) (by omega)
      have := RI_ap h.1.2.2.2.2.1 (show nT i < 3 by omega)
      dsimp only at b this
      omega
    have e4 : cntB (fun q => decide ((z_T (x_R x) (nT i)).2.1 q ≠ -1)) 259 = cntB T'.1 259 := cntB_c (fun q hq => (TRq_t e3 (e2.1 q hq)).symm)
    rw [e1]
    refine Ag_0 (M := (A, L, S, C, W, T')) (INV_T h) ?_ rfl
    dsimp only at v1 v2 v3 v4 v5 ⊢
    rw [v1, v2, v3, v4, e4, IV_lk h.1 (show nT i < 3 by omega)]
  · rw [if_neg c, if_neg c]
    exact Ag_F h rfl
theorem eq_count {x : zX} {M : mR} {w : Int32} (h : INV x M) : Ag [IAE] (z_count w x) (m_count w M) := by
  unfold z_count m_count
  by_cases c : (nI 0 ≤ w ∧ w ≤ nI 7)
  · rw [if_pos c, if_pos c]
    have hw := (nT_le (by decide) c).1
    obtain ⟨A, L, S, C, W, T⟩ := M
    obtain ⟨r1, r2, r3, r4⟩ := h.1.2.2.1
    have e2 : z_qr (x_R x) = m_qr (A, L, S, C, W, T) := IV_q h.1
    obtain ⟨q1, -⟩ := r3 (nT w - 4) (by omega)
    have q6 := h.2.1 (nT w - 4) (by omega)
    refine Ag_0 (M := (A, L, S, C, W, T)) h ?_ rfl
    rw [e2, q1, q6, r1.1, r1.2.1, r1.2.2]
  · rw [if_neg c, if_neg c]
    exact Ag_F h rfl

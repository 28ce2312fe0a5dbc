/-! THE CALLS, one by one: open, ping, move -/
theorem INV_S {x : zX} {A : mA} {L : mL} {S : mS} {C C' : mC} {W W' : mW} {T T' : mT} {j : Nat} {y : zS} (h : INV x (A, L, S, C, W, T)) (hy : s_sv y < 3) (hj : s_op y = C'.1 j ∧ s_sv y = C'.2.2.1 j ∧ s_to y = C'.2.2.2.1 j ∧ s_he y = C'.2.2.2.2 j ∧ WR (s_X y) W' j) (ho : ∀ k, k < 4 → k ≠ j → sSame C C' W W' k) (hn : s_op y = false → ∀ q, q < 259 → (s_X y).1 q = nI 0) (hd : s_du y = s_du (z_S (x_R x) j)) (hd2 : C'.2.1 = C.2.1) : INV (x_sR x (z_sS (x_R x) j y)) (A, L, S, C', W', T') := by
  obtain ⟨h1, h2, h3, h4⟩ := h
  refine ⟨IV_S h1 hy hj ho hn, fun k hk => ?_, fun z k hk => ?_, h4⟩
  · show s_du (z_S (z_sS (x_R x) j y) k) = C'.2.1 k
    rw [sS_du, hd2]
    by_cases c : k = j
    · rw [if_pos c, hd, ← c]; exact h2 k hk
    · rw [if_neg c]; exact h2 k hk
  · show C'.2.1 k = false
    rw [hd2]; exact h3 z k hk
theorem fgK_t {f : Nat → Bool} {j q : Nat} (hq : q < 259) : fgK f j 259 (259 * j + q) = false := by
  unfold fgK; rw [if_pos (by omega)]
theorem fgK_o {f : Nat → Bool} {j k q : Nat} (hq : q < 259) (hk : k ≠ j) : fgK f j 259 (259 * k + q) = f (259 * k + q) := by
  unfold fgK; rw [if_neg (by omega)]
theorem WR_fg {X : wS} {W : mW} {j : Nat} (h : WR X W j) : WR (fillN X.1 259 (nI 0), X.2) (fgK W.1 j 259, fgK W.2.1 j 259, W.2.2) j := by
  refine ⟨fun q hq => ?_, h.2⟩
  show fillN X.1 259 (nI 0) q = wv (fgK W.1 j 259 (259 * j + q)) (fgK W.2.1 j 259 (259 * j + q))
  rw [fgK_t hq, fgK_t hq]
  unfold fillN
  rw [if_pos hq]
  rfl
theorem eq_open {x : zX} {M : mR} {s i to : Int32} (h : INV x M) : Ag [IAE, ISE] (z_open s i to x) (m_open s i to M) := by
  unfold z_open m_open
  by_cases c : (nI 0 ≤ s ∧ s ≤ nI 3) ∧ (nI 0 ≤ i ∧ i ≤ nI 2) ∧ (nI 1 ≤ to ∧ to ≤ nI 50)
  · rw [if_pos c, if_pos c]
    have hs := (nT_le (by decide) c.1).1
    have hi := (nT_le (by decide) c.2.1).1
    obtain ⟨A, L, S, C, W, T⟩ := M
    have hIV := h.1
    have e1 := IV_lk hIV (show nT i < 3 by omega)
    have e2 : z_qr (x_R x) = m_qr (A, L, S, C, W, T) := IV_q hIV
    obtain ⟨r1, r2, r3, r4⟩ := hIV.2.2.1
    obtain ⟨q1, q2, q3, q4, q5⟩ := r3 (nT s) (by omega)
    have q6 := h.2.1 (nT s) (by omega)
    rw [e1, e2, q1, q6]
    by_cases c2 : C.1 (nT s) = false ∧ C.2.1 (nT s) = false ∧ m_lk (A, L, S, C, W, T) (nT i) = true ∧ m_qr (A, L, S, C, W, T) = true
    · rw [if_pos c2, if_pos c2, r1.2.2]
      refine Ag_E (INV_S h (show nT i < 3 by omega) ⟨up_s.symm, up_s.symm, upd_s.symm, ?_, q5⟩ (fun k hk hc => ⟨up_n hc, up_n hc, upd_n hc, upd_n hc, fun _ _ => rfl, fun _ _ => rfl, rfl, fun _ _ => rfl⟩) (fun z => nomatch z) ?_ rfl)
      · exact upd_s.symm
      · exact q6.symm
    · rw [if_neg c2, if_neg c2]
      exact Ag_F h rfl
  · rw [if_neg c, if_neg c]
    exact Ag_F h rfl
theorem eq_ping {x : zX} {M : mR} {s : Int32} (h : INV x M) : Ag [IAE, ISE] (z_ping s x) (m_ping s M) := by
  unfold z_ping m_ping
  by_cases c : (nI 0 ≤ s ∧ s ≤ nI 3)
  · rw [if_pos c, if_pos c]
    have hs := (nT_le (by decide) c).1
    obtain ⟨A, L, S, C, W, T⟩ := M
    have hIV := h.1
    have e1 := IV_rc hIV (show nT s < 4 by omega)
    have e2 : z_qr (x_R x) = m_qr (A, L, S, C, W, T) := IV_q hIV
    obtain ⟨r1, r2, r3, r4⟩ := hIV.2.2.1
    obtain ⟨q1, q2, q3, q4, q5⟩ := r3 (nT s) (by omega)
    rw [e1, e2]
    by_cases c2 : m_rc (A, L, S, C, W, T) (nT s) = true ∧ m_qr (A, L, S, C, W, T) = true
    · rw [if_pos c2, if_pos c2, q5.2.1, r1.2.2]
      refine Ag_E (INV_S h (hIV.1.1.2.1 (nT s)).1 ⟨q1, q2, q3, upd_s.symm, q5⟩ (fun k hk hc => ⟨rfl, rfl, rfl, upd_n hc, fun _ _ => rfl, fun _ _ => rfl, rfl, fun _ _ => rfl⟩) (fun z => hIV.2.2.2.2.2.2 (nT s) (by omega) z) rfl rfl)
    · rw [if_neg c2, if_neg c2]
      exact Ag_F h rfl
  · rw [if_neg c, if_neg c]
    exact Ag_F h rfl
theorem eq_move {x : zX} {M : mR} {s i : Int32} (h : INV x M) : Ag [IAE, ISE] (z_move s i x) (m_move s i M) := by
  unfold z_move m_move
  by_cases c : (nI 0 ≤ s ∧ s ≤ nI 3) ∧ (nI 0 ≤ i ∧ i ≤ nI 2)
  · rw [if_pos c, if_pos c]
    have hs := (nT_le (by decide) c.1).1
    have hi := (nT_le (by decide) c.2).1
    obtain ⟨A, L, S, C, W, T⟩ := M
    have hIV := h.1
    obtain ⟨r1, r2, r3, r4⟩ := hIV.2.2.1
    obtain ⟨q1, q2, q3, q4, q5⟩ := r3 (nT s) (by omega)
    have q6 := (r2 (nT i) (by omega)).2.2.2.1
    dsimp only at q1 q2 q3 q4 q5 q6
    rw [q1, q6]
    by_cases c2 : C.1 (nT s) = true ∧ S.2.2.2.1 (nT i) = false
    · have c3 : C.1 (nT s) = true ∧ (!S.2.2.2.1 (nT i)) = true := ⟨c2.1, by rw [c2.2]; rfl⟩
      rw [if_pos c3, if_pos c2, q2]
      refine Ag_E (INV_S h (show nT i < 3 by omega) ⟨rfl, up_s.symm, q3, q4, WR_fg q5⟩ (fun k hk hc => ⟨rfl, up_n hc, rfl, rfl, fun q hq => fgK_o hq hc, fun q hq => fgK_o hq hc, rfl, fun _ _ => rfl⟩) (fun z q hq => ?_) rfl rfl)
      show fillN (s_X (z_S (x_R x) (nT s))).1 259 (nI 0) q = nI 0
      unfold fillN; rw [if_pos hq]
    · have c3 : ¬ (C.1 (nT s) = true ∧ (!S.2.2.2.1 (nT i)) = true) := fun z => c2 ⟨z.1, by have := z.2; revert this; cases S.2.2.2.1 (nT i) <;> decide⟩
      rw [if_neg c3, if_neg c2]
      exact Ag_F h rfl
  · rw [if_neg c, if_neg c]
    exact Ag_F h rfl

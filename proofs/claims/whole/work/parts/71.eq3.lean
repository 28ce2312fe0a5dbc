/-! close, tick, crash, restart, alone -/
theorem IV_pn {x : zX} {M : mR} (h : IV x M) : IV x (pnM M) := by
  obtain ⟨⟨fa, ld, ep, tm⟩, L, S, C, W, T⟩ := M
  cases ld <;> exact h
theorem DU_pn {R : zR} {M : mR} (h : DU R M) : DU R (pnM M) := by
  obtain ⟨⟨fa, ld, ep, tm⟩, L, S, C, W, T⟩ := M
  cases ld <;> exact h
theorem IV_fin {x : zX} {M : mR} {j : Nat} (h : IV x M) (hj : j < 4) : IV (x_sR x (z_en (x_R x) j)) (m_fin j M) := by
  obtain ⟨A, L, S, C, W, T⟩ := M
  obtain ⟨r1, r2, r3, r4⟩ := h.2.2.1
  obtain ⟨q1, q2, q3, q4, q5⟩ := r3 j hj
  refine IV_S (y := ((fillN (s_X (z_S (x_R x) j)).1 259 (nI 0), (s_X (z_S (x_R x) j)).2.1, 0), false, true, s_sv (z_S (x_R x) j), s_to (z_S (x_R x) j), s_he (z_S (x_R x) j))) h (h.1.1.2.1 j).1 ⟨up_s.symm, q2, q3, q4, (WR_fg q5).1, up_s.symm, Nat.zero_le 8, fun k hk => absurd hk (Nat.not_lt_zero k)⟩ (fun k hk hc => ⟨up_n hc, rfl, rfl, rfl, fun q hq => fgK_o hq hc, fun q hq => fgK_o hq hc, up_n hc, fun _ _ => rfl⟩) (fun _ q hq => ?_)
  show fillN (s_X (z_S (x_R x) j)).1 259 (nI 0) q = nI 0
  unfold fillN; rw [if_pos hq]
theorem DU_fin {R : zR} {M : mR} {j : Nat} (h : DU R M) : DU (z_en R j) (m_fin j M) := fun k hk => by
  unfold z_en
  rw [sS_du]
  show _ = va_up M.2.2.2.1.2.1 j true k
  by_cases c : k = j
  · rw [if_pos c, c, up_s]
  · rw [if_neg c, up_n c]; exact h k hk
theorem cl_close {x : zX} {M : mR} (h : INV x M) : ∀ j, j < 4 → clOK 4 0 (x_sR x (z_en (x_R x) j)) := fun j hj => (CD (IV_fin h.1 hj) (DU_fin h.2.1) h.2.2.2).1
theorem eq_close {x : zX} {M : mR} {s : Int32} (h : INV x M) : Ag [IAE, ISE] (z_close s x) (m_close s M) := by
  unfold z_close m_close
  by_cases c : (nI 0 ≤ s ∧ s ≤ nI 3)
  · rw [if_pos c, if_pos c]
    have hs := (nT_le (by decide) c).1
    have e1 := IV_rc h.1 (show nT s < 4 by omega)
    have e2 : z_qr (x_R x) = m_qr M := IV_q h.1
    rw [e1, e2]
    by_cases c2 : m_rc M (nT s) = true ∧ m_qr M = true
    · rw [if_pos c2, if_pos c2]
      have e3 : owT (pnM M).2.2.2.2.2 (nI (nT s)) = z_cO (x_R x) (nI (nT s)) := by
        obtain ⟨⟨fa, ld, ep, tm⟩, L, S, C, W, T⟩ := M
        cases ld with
        | none => exact nomatch c2.2
        | some k => exact ow_eq (h.1.2.2.2.2.2.1 k rfl T) (by omega)
      rw [e3]
      exact Ag_C (IV_fin (IV_pn h.1) (by omega)) (DU_fin (DU_pn h.2.1)) h.2.2.2
    · rw [if_neg c2, if_neg c2]
      exact Ag_F h rfl
  · rw [if_neg c, if_neg c]
    exact Ag_F h rfl
theorem IV_tm {x : zX} {M : mR} (b : Int32) (h : IV x M) : IV (z_tk0 b x) (m_tm b M) := by
  obtain ⟨h1, h2, ⟨⟨r1, r2, r3⟩, r4, r5⟩, h4, h5, h6, h7⟩ := h
  refine ⟨⟨zOK_s0 h1.1 _ h1.1.1 h1.1.2.2.1, h1.2⟩, h2, ⟨⟨r1, r2, ?_⟩, r4, r5⟩, h4, h5, h6, h7⟩
  show z_tm (x_R x) + b = M.1.2.2.2 + b
  rw [r3]
theorem tkK_P (R : zR) : ∀ n, z_P (tkK R n).1 = z_P R := by
  intro n
  induction n with
  | zero => rfl
  | succ n ih =>
    unfold tkK
    split
    · exact ih
    · exact ih
theorem TKS {x : zX} {R0 : zR} : ∀ (g n : Nat) (X : mR × Nat), n + g = 4 → IV (x_sR x (tkK R0 n).1) X.1 → DU (tkK R0 n).1 X.1 → (tkK R0 n).2 = X.2 → IV (x_sR x (tkK R0 4).1) (mtF g n X).1 ∧ DU (tkK R0 4).1 (mtF g n X).1 ∧ (tkK R0 4).2 = (mtF g n X).2 := by
  intro g
  induction g with
  | zero =>
    intro n X h1 h2 h3 h4
    have e : n = 4 := by omega
    subst e
    exact ⟨h2, h3, h4⟩
  | succ g ih =>
    intro n X h1 h2 h3 h4
    have e0 : mtF (g + 1) n X = mtF g (n + 1) (if mxp n X.1 = true then (m_fin n X.1, X.2 + 1) else X) := rfl
    have e1 : tkK R0 (n + 1) = if z_xp (tkK R0 n).1 n = true then (z_en (tkK R0 n).1 n, (tkK R0 n).2 + 1) else tkK R0 n := rfl
    have e2 : z_xp (tkK R0 n).1 n = mxp n X.1 := by
      obtain ⟨r1, r2, r3, r4⟩ := h2.2.2.1
      obtain ⟨q1, q2, q3, q4, q5⟩ := r3 n (by omega)
      have r9 : z_tm (tkK R0 n).1 = X.1.1.2.2.2 := r1.2.2
      have q1' : s_op (z_S (tkK R0 n).1 n) = _ := q1
      have q3' : s_to (z_S (tkK R0 n).1 n) = _ := q3
      have q4' : s_he (z_S (tkK R0 n).1 n) = _ := q4
      unfold z_xp mxp
      rw [q1', q3', q4', r9]
    rw [e0]
    rw [e2] at e1
    by_cases c : mxp n X.1 = true
    · rw [if_pos c] at e1 ⊢
      refine ih (n + 1) _ (by omega) ?_ ?_ ?_
      · rw [e1]
        exact IV_fin (x := x_sR x (tkK R0 n).1) h2 (by omega)
      · rw [e1]
        exact DU_fin h3
      · rw [e1]
        show (tkK R0 n).2 + 1 = X.2 + 1
        rw [h4]
    · rw [if_neg c] at e1 ⊢
      refine ih (n + 1) X (by omega) ?_ ?_ ?_
      · rw [e1]; exact h2
      · rw [e1]; exact h3
      · rw [e1]; exact h4
theorem tk_all {x : zX} {M : mR} (b : Int32) (h : INV x M) : IV (x_sR x (tkK (x_R (z_tk0 b x)) 4).1) (mtF 4 0 (m_tm b M, 0)).1 ∧ DU (tkK (x_R (z_tk0 b x)) 4).1 (mtF 4 0 (m_tm b M, 0)).1 ∧ (tkK (x_R (z_tk0 b x)) 4).2 = (mtF 4 0 (m_tm b M, 0)).2 := TKS 4 0 (m_tm b M, 0) rfl (IV_tm b h.1) h.2.1 rfl
theorem tk_PN {x : zX} {M : mR} (b : Int32) (h : INV x M) : PN (x_R (x_sR x (tkK (x_R (z_tk0 b x)) 4).1)) := by
  intro p hp
  have e : z_P (x_R (x_sR x (tkK (x_R (z_tk0 b x)) 4).1)) = z_P (x_R x) := tkK_P (x_R (z_tk0 b x)) 4
  rw [e]
  exact h.2.2.2 p hp
theorem cl_tick {x : zX} {M : mR} (b : Int32) (h : INV x M) : clOK 4 0 (x_sR x (tkK (x_R (z_tk0 b x)) 4).1) := (CD (tk_all b h).1 (tk_all b h).2.1 (tk_PN b h)).1
theorem eq_tick {x : zX} {M : mR} {b : Int32} (h : INV x M) : Ag [IAE] (z_tick b x) (m_tick b M) := by
  unfold z_tick m_tick
  by_cases c : (nI 0 ≤ b ∧ b ≤ nI 20)
  · rw [if_pos c, if_pos c]
    obtain ⟨t1, t2, t3⟩ := tk_all b h
    have t4 := tk_PN b h
    rw [t3]
    exact Ag_C t1 t2 t4
  · rw [if_neg c, if_neg c]
    exact Ag_F h rfl
/-- a server's state changes -/
theorem VR_D {E : Nat → zE} {L : mL} {S : mS} {v : zV} {i : Nat} {D' : mD} {u a : Bool} (h : VR E L S v i) (h1 : u = (!D'.1 i)) (h2 : a = D'.2 i) : VR E L (S.1, S.2.1, S.2.2.1, D') (v_lf v, v_ln v, v_ap v, v_ag v, u, a) i := ⟨h.1, h.2.1, h.2.2.1, h1, h2, h.2.2.2.2.2⟩
theorem IV_V {x : zX} {A : mA} {L : mL} {S : mS} {C : mC} {W : mW} {T : mT} {D' : mD} {k : Nat} {u a : Bool} (h : IV x (A, L, S, C, W, T)) (h1 : u = (!D'.1 k)) (h2 : a = D'.2 k) (h3 : ∀ i, i ≠ k → D'.1 i = S.2.2.2.1 i ∧ D'.2 i = S.2.2.2.2 i) : IV (x_sR x (z_sV (x_R x) k (v_lf (z_V (x_R x) k), v_ln (z_V (x_R x) k), v_ap (z_V (x_R x) k), v_ag (z_V (x_R x) k), u, a))) (A, L, (S.1, S.2.1, S.2.2.1, D'), C, W, T) := by
  obtain ⟨g1, g2, ⟨r1, r2, r3, r4⟩, g4, g5, g6, g7⟩ := h
  refine ⟨⟨zOK_sV g1.1 k u a, g1.2⟩, g2, ⟨r1, fun i hi => ?_, r3, r4⟩, g4, g5, g6, g7⟩
  show VR (x_E x) L (S.1, S.2.1, S.2.2.1, D') (va_up (z_V (x_R x)) k _ i) i
  by_cases c : i = k
  · subst c
    rw [up_s]
    exact VR_D (r2 i hi) h1 h2
  · rw [up_n c]
    obtain ⟨w1, w2, w3, w4, w5, w6⟩ := r2 i hi
    exact ⟨w1, w2, w3, w4.trans (by rw [(h3 i c).1]), w5.trans (h3 i c).2.symm, w6⟩
theorem IV_dn {x : zX} {M : mR} {k : Nat} {b : Bool} (hk : k < 3) (h : IV x M) : IV (x_sR x (z_sV (x_R x) k (v_lf (z_V (x_R x) k), v_ln (z_V (x_R x) k), v_ap (z_V (x_R x) k), v_ag (z_V (x_R x) k), !b, v_al (z_V (x_R x) k)))) (m_dn k b M) := by
  obtain ⟨A, L, S, C, W, T⟩ := M
  exact IV_V (D' := (va_up S.2.2.2.1 k b, S.2.2.2.2)) h (by show (!b) = (!va_up S.2.2.2.1 k b k); rw [up_s]) (h.2.2.1.2.1 k hk).2.2.2.2.1 (fun i hi => ⟨up_n hi, rfl⟩)
theorem IV_ct {x : zX} {M : mR} {k : Nat} {b : Bool} (hk : k < 3) (h : IV x M) : IV (x_sR x (z_sV (x_R x) k (v_lf (z_V (x_R x) k), v_ln (z_V (x_R x) k), v_ap (z_V (x_R x) k), v_ag (z_V (x_R x) k), v_up (z_V (x_R x) k), b))) (m_ct k b M) := by
  obtain ⟨A, L, S, C, W, T⟩ := M
  exact IV_V (D' := (S.2.2.2.1, va_up S.2.2.2.2 k b)) h (h.2.2.1.2.1 k hk).2.2.2.1 (by show b = va_up S.2.2.2.2 k b k; rw [up_s]) (fun i hi => ⟨rfl, up_n hi⟩)
theorem IV_sp {x : zX} {M : mR} (h : IV x M) : IV (x_sp x) (spM M) := by
  have hk := IV_k h
  obtain ⟨h1, h2, h3, h4, h5, h6, h7⟩ := h
  obtain ⟨p1, p2, p3, p4⟩ := SPR hk h3 h4 h5 h6
  exact ⟨xOK_sp h1, h2, p1, p2, p3, p4, NW_K h7 (Kp_sp (x_E x) (x_R x)).2⟩
theorem DU_sp {x : zX} {M : mR} (h : DU (x_R x) M) : DU (x_R (x_sp x)) (spM M) := fun j hj => by
  rw [(spM_1 M).2.1, ← h j hj]
  exact congrArg (fun y => y.2.1) ((Kp_sp (x_E x) (x_R x)).2 j).1
theorem PN_sp {x : zX} (h : PN (x_R x)) : PN (x_R (x_sp x)) := fun p hp => by
  have e : z_P (x_R (x_sp x)) = z_P (x_R x) := (Kp_sp (x_E x) (x_R x)).1.2.2.2
  rw [e]; exact h p hp
theorem cl_rs {x : zX} {M : mR} (h : INV x M) : ∀ k, k < 3 → clOK 4 0 (z_rs0 k x) := fun k hk => (CD (IV_sp (IV_dn (b := false) hk h.1)) (DU_sp (M := m_dn k false M) h.2.1) (PN_sp h.2.2.2)).1
theorem cl_al {x : zX} {M : mR} (b : Bool) (h : INV x M) : ∀ k, k < 3 → clOK 4 0 (z_al0 k b x) := fun k hk => (CD (IV_sp (IV_ct (b := b) hk h.1)) (DU_sp (M := m_ct k b M) h.2.1) (PN_sp h.2.2.2)).1
theorem eq_restart {x : zX} {M : mR} {i : Int32} (h : INV x M) : Ag [IAE, ISE] (z_restart i x) (m_restart i M) := by
  unfold z_restart m_restart
  by_cases c : (nI 0 ≤ i ∧ i ≤ nI 2)
  · rw [if_pos c, if_pos c]
    have hi := (nT_le (by decide) c).1
    have e1 := (h.1.2.2.1.2.1 (nT i) (by omega)).2.2.2.1
    rw [e1]
    by_cases c2 : M.2.2.1.2.2.2.1 (nT i) = true
    · rw [if_pos (show (!M.2.2.1.2.2.2.1 (nT i)) = false by rw [c2]; rfl), if_pos c2]
      have hv : IV (z_rs0 (nT i) x) (spM (m_dn (nT i) false M)) := IV_sp (IV_dn (b := false) (by omega) h.1)
      have e2 := (hv.2.2.1.2.1 (nT i) (by omega)).2.1
      rw [e2]
      exact Ag_C hv (DU_sp (M := m_dn (nT i) false M) h.2.1) (PN_sp h.2.2.2)
    · rw [if_neg (show ¬ (!M.2.2.1.2.2.2.1 (nT i)) = false from fun z => c2 (by revert z; cases M.2.2.1.2.2.2.1 (nT i) <;> decide)), if_neg c2]
      exact Ag_F h rfl
  · rw [if_neg c, if_neg c]
    exact Ag_F h rfl
theorem eq_alone {x : zX} {M : mR} {i : Int32} {b : Bool} (h : INV x M) : Ag [IAE] (z_alone i b x) (m_alone i b M) := by
  unfold z_alone m_alone
  by_cases c : (nI 0 ≤ i ∧ i ≤ nI 2)
  · rw [if_pos c, if_pos c]
    have hi := (nT_le (by decide) c).1
    have e1 := (h.1.2.2.1.2.1 (nT i) (by omega)).2.2.2.2.1
    rw [e1]
    exact Ag_C (IV_sp (IV_ct (b := b) (by omega) h.1)) (DU_sp (M := m_ct (nT i) b M) h.2.1) (PN_sp h.2.2.2)
  · rw [if_neg c, if_neg c]
    exact Ag_F h rfl
theorem IV_cr0 {x : zX} {M : mR} {k : Nat} (hk : k < 3) (h : IV x M) : IV (x_sR x (z_cr0 k (x_R x))) (m_cr0 k M) := by
  have h9 := IV_dn (b := true) hk h
  obtain ⟨⟨fa, ld, ep, tm⟩, L, S, C, W, T⟩ := M
  obtain ⟨g1, g2, ⟨r1, r2, r3, r4⟩, g4, g5, g6, g7⟩ := h9
  have r0 : z_ld (x_R x) = ld := r1.1
  have hl : ∀ k', (if ld = some k then none else ld) = some k' → ld = some k' := fun k' z => by
    by_cases c : ld = some k
    · rw [if_pos c] at z; exact nomatch z
    · rw [if_neg c] at z; exact z
  refine ⟨⟨zOK_cr0 h.1.1 k, h.1.2⟩, g2, ⟨⟨?_, r1.2⟩, r2, r3, r4⟩, g4, ?_, fun k' z => g6 k' (hl k' z), g7⟩
  · show (if z_ld (x_R x) = some k then none else z_ld (x_R x)) = if ld = some k then none else ld
    rw [r0]
  · obtain ⟨C0, c, a, w1, w2, w3, w4⟩ := g5
    exact ⟨C0, c, a, w1, w2, w3, fun k' z => w4 k' (hl k' z)⟩
theorem IV_fg {x : zX} {M : mR} {j : Nat} (h : IV x M) (hj : j < 4) (ho : s_op (z_S (x_R x) j) = false) : IV x (m_fg j M) := by
  obtain ⟨A, L, S, C, W, T⟩ := M
  obtain ⟨r1, r2, r3, r4⟩ := h.2.2.1
  obtain ⟨q1, q2, q3, q4, q5⟩ := r3 j hj
  have h9 := IV_S (y := z_S (x_R x) j) (C' := C) (W' := (fgK W.1 j 259, fgK W.2.1 j 259, W.2.2)) (T' := T) h (h.1.1.2.1 j).1 ⟨q1, q2, q3, q4, fun q hq => by
    show (s_X (z_S (x_R x) j)).1 q = wv (fgK W.1 j 259 (259 * j + q)) (fgK W.2.1 j 259 (259 * j + q))
    rw [fgK_t hq, fgK_t hq]
    exact h.2.2.2.2.2.2 j hj ho q hq, q5.2⟩ (fun k hk hc => ⟨rfl, rfl, rfl, rfl, fun q hq => fgK_o hq hc, fun q hq => fgK_o hq hc, rfl, fun _ _ => rfl⟩) (fun z => h.2.2.2.2.2.2 j hj z)
  have e : z_sS (x_R x) j (z_S (x_R x) j) = x_R x := by
    unfold z_sS
    rw [up_id rfl]
  rw [e] at h9
  exact h9
theorem IV_dw {x : zX} {M : mR} {j : Nat} (h : IV x M) (hj : j < 4) : IV (x_sR x (z_dw (x_R x) j)) (m_fg j M) := by
  obtain ⟨A, L, S, C, W, T⟩ := M
  obtain ⟨r1, r2, r3, r4⟩ := h.2.2.1
  obtain ⟨q1, q2, q3, q4, q5⟩ := r3 j hj
  exact IV_S (y := ((fillN (s_X (z_S (x_R x) j)).1 259 (nI 0), (s_X (z_S (x_R x) j)).2), (z_S (x_R x) j).2)) h (h.1.1.2.1 j).1 ⟨q1, q2, q3, q4, WR_fg q5⟩ (fun k hk hc => ⟨rfl, rfl, rfl, rfl, fun q hq => fgK_o hq hc, fun q hq => fgK_o hq hc, rfl, fun _ _ => rfl⟩) (fun _ q hq => by
    show fillN (s_X (z_S (x_R x) j)).1 259 (nI 0) q = nI 0
    unfold fillN; rw [if_pos hq])
theorem crK_k (k : Nat) (R : zR) : ∀ n, z_P (crK k R n) = z_P R ∧ ∀ j, (z_S (crK k R n) j).2 = (z_S R j).2 := by
  intro n
  induction n with
  | zero => exact ⟨rfl, fun _ => rfl⟩
  | succ n ih =>
    unfold crK
    split
    · refine ⟨ih.1, fun j => ?_⟩
      show (va_up (z_S (crK k R n)) n _ j).2 = _
      by_cases c : j = n
      · subst c; rw [up_s]; exact ih.2 j
      · rw [up_n c]; exact ih.2 j
    · exact ih
theorem mcF_1 {k : Nat} : ∀ (g s : Nat) (M : mR), (mcF k g s M).1 = M.1 ∧ (mcF k g s M).2.2.1 = M.2.2.1 ∧ (mcF k g s M).2.2.2.1 = M.2.2.2.1 := by
  intro g
  induction g with
  | zero => intro s M; exact ⟨rfl, rfl, rfl⟩
  | succ g ih =>
    intro s M
    have e : mcF k (g + 1) s M = mcF k g (s + 1) (if M.2.2.2.1.2.2.1 s = k then m_fg s M else M) := rfl
    rw [e]
    split
    · exact ih (s + 1) (m_fg s M)
    · exact ih (s + 1) M
theorem CRS {x : zX} {R0 : zR} {k : Nat} : ∀ (g n : Nat) (M : mR), n + g = 4 → IV (x_sR x (crK k R0 n)) M → IV (x_sR x (crK k R0 4)) (mcF k g n M) := by
  intro g
  induction g with
  | zero =>
    intro n M h1 h2
    have e : n = 4 := by omega
    subst e
    exact h2
  | succ g ih =>
    intro n M h1 h2
    have e : mcF k (g + 1) n M = mcF k g (n + 1) (if M.2.2.2.1.2.2.1 n = k then m_fg n M else M) := rfl
    have e1 : crK k R0 (n + 1) = if (s_op (z_S (crK k R0 n) n) && decide (s_sv (z_S (crK k R0 n) n) = k)) = true then z_dw (crK k R0 n) n else crK k R0 n := rfl
    have q2 : s_sv (z_S (crK k R0 n) n) = M.2.2.2.1.2.2.1 n := (h2.2.2.1.2.2.1 n (by omega)).2.1
    rw [e]
    refine ih (n + 1) _ (by omega) ?_
    rw [e1, q2]
    by_cases c : M.2.2.2.1.2.2.1 n = k
    · rw [if_pos c]
      cases c2 : s_op (z_S (crK k R0 n) n) with
      | true =>
        rw [if_pos (by rw [c]; simp)]
        exact IV_dw (x := x_sR x (crK k R0 n)) h2 (by omega)
      | false =>
        rw [if_neg (by simp)]
        exact IV_fg h2 (by omega) c2
    · rw [if_neg c, if_neg (by simp [c])]
      exact h2
theorem cntB_mono {f g : Nat → Bool} : ∀ {n : Nat}, (∀ i, i < n → f i = true → g i = true) → cntB f n ≤ cntB g n := by
  intro n
  induction n with
  | zero => intro _; exact Nat.le_refl _
  | succ n ih =>
    intro h
    have h1 := ih (fun i hi => h i (by omega))
    unfold cntB
    cases c : f n with
    | false =>
      rw [if_neg (by decide)]
      omega
    | true =>
      rw [h n (by omega) c, if_pos rfl]
      omega
theorem eq_crash {x : zX} {M : mR} {i : Int32} (h : INV x M) : Ag [IAE, ISE] (z_crash i x) (m_crash i M) := by
  unfold z_crash m_crash
  by_cases c : (nI 0 ≤ i ∧ i ≤ nI 2)
  · rw [if_pos c, if_pos c]
    have hi := (nT_le (by decide) c).1
    have e1 := (h.1.2.2.1.2.1 (nT i) (by omega)).2.2.2.1
    have e0 := (h.1.2.2.1.2.1 (nT i) (by omega)).1
    rw [e1, e0]
    by_cases c2 : M.2.2.1.2.2.2.1 (nT i) = false
    · rw [if_pos (show (!M.2.2.1.2.2.2.1 (nT i)) = true by rw [c2]; rfl), if_pos c2]
      have hv := CRS (x := x) (R0 := z_cr0 (nT i) (x_R x)) (k := nT i) 4 0 (m_cr0 (nT i) M) rfl (IV_cr0 (by omega) h.1)
      obtain ⟨f1, f2, f3⟩ := mcF_1 (k := nT i) 4 0 (m_cr0 (nT i) M)
      have hk := crK_k (nT i) (z_cr0 (nT i) (x_R x)) 4
      refine Ag_E ⟨hv, fun j hj => ?_, fun z => ?_, fun p hp => ?_⟩
      · rw [f3]
        exact (congrArg (fun y => y.2.1) (hk.2 j)).trans (h.2.1 j hj)
      · rw [f1, f2] at z
        rw [f3]
        refine h.2.2.1 ?_
        obtain ⟨⟨fa, ld, ep, tm⟩, L, S, C, W, T⟩ := M
        have z2 : k_qr (if ld = some (nT i) then none else ld) (va_up S.2.2.2.1 (nT i) true, S.2.2.2.2) = true := z
        show k_qr ld S.2.2.2 = true
        unfold k_qr at z2 ⊢
        have z3 := of_decide_eq_true z2
        refine decide_eq_true (Nat.lt_of_lt_of_le z3 (cntB_mono (fun u hu hz => ?_)))
        have hft : ∀ u, k_ft (va_up S.2.2.2.1 (nT i) true, S.2.2.2.2) u = true → k_ft S.2.2.2 u = true := fun u hy => by
          unfold k_ft at hy ⊢
          dsimp only at hy
          by_cases c5 : u = nT i
          · subst c5; rw [up_s] at hy; exact nomatch hy
          · rw [up_n c5] at hy; exact hy
        by_cases c4 : ld = some (nT i)
        · rw [if_pos c4] at hz; exact nomatch hz
        · rw [if_neg c4] at hz
          cases ld with
          | none => exact nomatch hz
          | some k =>
            have hz2 : (k_ft (va_up S.2.2.2.1 (nT i) true, S.2.2.2.2) k && k_ft (va_up S.2.2.2.1 (nT i) true, S.2.2.2.2) u) = true := hz
            obtain ⟨y1, y2⟩ := Bool.and_eq_true_iff.mp hz2
            exact Bool.and_eq_true_iff.mpr ⟨hft k y1, hft u y2⟩
      · have e : z_P (x_R (x_sR x (crK (nT i) (z_cr0 (nT i) (x_R x)) 4))) = z_P (x_R x) := hk.1
        rw [e]
        exact h.2.2.2 p hp
    · rw [if_neg (show ¬ (!M.2.2.1.2.2.2.1 (nT i)) = true from fun z => c2 (by revert z; cases M.2.2.1.2.2.2.1 (nT i) <;> decide)), if_neg c2]
      exact Ag_F h rfl
  · rw [if_neg c, if_neg c]
    exact Ag_F h rfl

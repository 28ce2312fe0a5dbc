/-! set, delete, create, elect -/
theorem INV_ent {x : zX} {M : mR} {e : zE} (h : INV x M) : INV (x_ent e x) M := by
  obtain ⟨⟨h1, h2, ⟨r1, r2, r3, r4⟩, h4, h5, h6, h7⟩, g2, g3, g4⟩ := h
  have hf := h2 (x_N x + 1) (by omega)
  refine ⟨⟨⟨zOK_new h1.1 hf e, ?_⟩, fun a ha => ?_, ⟨r1, fun i hi => VR_ext (r2 i hi) (zEn_new (h1.1.2.2.2 i hi).1 hf), r3, r4⟩, h4, h5, h6, h7⟩, g2, g3, g4⟩
  · have := h1.2
    show 41 ≤ x_N x + 1
    omega
  · have ha2 : x_N x + 1 < a := ha
    show q_up (x_h x) (x_N x + 1) (en_ob e) a = none
    rw [q_up_n _ (by omega)]
    exact h2 a (by omega)
theorem INV_pr {x : zX} {M : mR} {e : zE} {k : Nat} (h : INV x M) (hk : M.1.2.1 = some k) (he : eW e) (hs : e.1 = 1 → ∀ T, (grT M.2.1 k (M.2.2.1.1 k) T).1 e.2.1 = true) (hl : M.2.2.1.1 k < 60) : INV (x_pr e x) (prM (eC e) M) := by
  have h1 := IV_pr h.1 he (fun r hr z => by
    have : k = r := Option.some.inj (hk.symm.trans hr)
    subst this; exact hs z) (fun r hr => by
    have : k = r := Option.some.inj (hk.symm.trans hr)
    subst this
    have := oc_le (playR e (z_P (x_R x)))
    omega)
  obtain ⟨q1, q2, q3⟩ := prM_1 (eC e) M
  refine ⟨h1, fun j hj => ?_, fun z j hj => ?_, IV_PN h1 (by rw [q1]; exact hk)⟩
  · rw [q2, ← h.2.1 j hj]
    exact congrArg (fun y => y.2.1) (pr_S e x j).1
  · rw [q1, q3] at z
    rw [q2]; exact h.2.2.1 z j hj
theorem PRO {l : List String} {x : zX} {P : mR} {e : zE} {v : Int32} {ans : zX → Int32} {k : Nat} (h : INV x P) (hk : P.1.2.1 = some k) (hl : l[1]? = some ISE) (he : eW e) (hs : e.1 = 1 → ∀ T, (grT P.2.1 k (P.2.2.1.1 k) T).1 e.2.1 = true) (hv : ans (x_pr e x) = v) : Ag l (z_prop e ans x) (m_prop (eC e) v P) := by
  have e0 : z_ld (x_R x) = some k := h.1.2.2.1.1.1.trans hk
  have e1 : z_full (x_R x) = decide (60 ≤ P.2.2.1.1 k) := by
    unfold z_full
    rw [e0]
    show decide (60 ≤ v_ln (z_V (x_R x) k)) = _
    rw [(h.1.2.2.1.2.1 k (IV_k h.1 k hk)).1]
  unfold z_prop m_prop
  rw [e1, hk]
  dsimp only
  by_cases c : 60 ≤ P.2.2.1.1 k
  · rw [if_pos (decide_eq_true c), if_pos c]
    exact Ag_F (INV_ent h) hl
  · rw [if_neg (show ¬ decide (60 ≤ P.2.2.1.1 k) = true from fun z => c (of_decide_eq_true z)), if_neg c]
    have h9 := INV_pr h hk he hs (by omega)
    have e2 : z_qr (x_R (x_pr e x)) = m_qr (prM (eC e) P) := IV_q h9.1
    rw [e2]
    by_cases c2 : m_qr (prM (eC e) P) = true
    · rw [if_pos c2, if_pos c2, hv]
      exact Ag_E h9
    · rw [if_neg c2, if_neg c2]
      exact Ag_F h9 hl
theorem rc_ld {M : mR} {j : Nat} (h : m_rc M j = true) : ∃ k, M.1.2.1 = some k := by
  obtain ⟨⟨fa, ld, ep, tm⟩, L, S, C, W, T⟩ := M
  cases ld with
  | none =>
    unfold m_rc at h
    have := (Bool.and_eq_true_iff.mp h).2
    exact nomatch this
  | some k => exact ⟨k, rfl⟩
/-- the planned tree -/
theorem INV_pl {x : zX} {M : mR} {k : Nat} (h : INV x M) (hk : M.1.2.1 = some k) : ∃ T', pnM M = (M.1, M.2.1, M.2.2.1, M.2.2.2.1, M.2.2.2.2.1, T') ∧ TR (M.2.2.1.1 k) (z_P (x_R x)) T' ∧ M.2.2.1.1 k < 2 ^ 31 ∧ INV x (M.1, M.2.1, M.2.2.1, M.2.2.2.1, M.2.2.2.2.1, T') := by
  obtain ⟨⟨fa, ld, ep, tm⟩, L, S, C, W, T⟩ := M
  have hk2 : ld = some k := hk
  subst hk2
  refine ⟨_, rfl, h.1.2.2.2.2.2.1 k rfl T, ?_, h⟩
  obtain ⟨-, t, -, b⟩ := h.1.2.2.2.1 k (IV_k h.1 k rfl)
  omega
theorem nT_rg {s : Int32} {a n : Nat} (hn : n < 2 ^ 31) (ha : a ≤ n) (h : nI a ≤ s ∧ s ≤ nI n) : a ≤ nT s ∧ nT s ≤ n ∧ s = nI (nT s) := by
  have h1 : (nI a).toInt ≤ s.toInt := Int32.le_iff_toInt_le.mp h.1
  have h2 := nT_le hn ⟨Int32.le_iff_toInt_le.mpr (by rw [nI_toInt (by omega)] at h1 ⊢; omega), h.2⟩
  refine ⟨?_, h2⟩
  have h3 : nT s = s.toInt.toNat := rfl
  rw [nI_toInt (by omega)] at h1
  omega
theorem pr_P (e : zE) (x : zX) {k : Nat} (hk : z_ld (x_R x) = some k) : z_P (x_R (x_pr e x)) = playR e (z_P (x_R x)) := by
  have h := (Kp_sp (va_up (x_E x) (x_N x + 1) e) (apP (x_N x + 1) e (x_R x))).1.2.2.2
  have h2 : z_P (apP (x_N x + 1) e (x_R x)) = playR e (z_P (x_R x)) := by unfold apP; rw [hk]; rfl
  exact h.trans h2
theorem eq_set {x : zX} {M : mR} {s q v d : Int32} (h : INV x M) : Ag [IAE, ISE, NSE] (z_set s q v d x) (m_set s q v d M) := by
  unfold z_set m_set
  by_cases c : (nI 0 ≤ s ∧ s ≤ nI 3) ∧ (nI 0 ≤ q ∧ q ≤ nI 258) ∧ -1 ≤ v
  · rw [if_pos c, if_pos c]
    have hs := (nT_le (by decide) c.1).1
    have hq := (nT_le (by decide) c.2.1).1
    rw [IV_rc h.1 (show nT s < 4 by omega)]
    by_cases c2 : m_rc M (nT s) = true
    · rw [if_pos c2, if_pos c2]
      obtain ⟨k, hk⟩ := rc_ld c2
      obtain ⟨T', e1, e2, e3, e9⟩ := INV_pl h hk
      rw [e1]
      dsimp only
      have e4 := TRq_t e3 (e2.1 (nT q) (by omega))
      by_cases c3 : T'.1 (nT q) = true
      · have c4 : (z_P (x_R x)).2.1 (nT q) ≠ -1 := by rw [e4] at c3; exact of_decide_eq_true c3
        rw [if_pos c4, if_pos c3]
        have e5 : T'.2.2.1 (nT q) = (z_P (x_R x)).2.1 (nT q) := by
          rcases e2.1 (nT q) (by omega) with ⟨-, -, -, z, -⟩ | ⟨z, -⟩
          · exact z
          · rw [c3] at z; exact nomatch z
        unfold z_ow
        rw [e5]
        by_cases c5 : v ≠ -1 ∧ v ≠ (z_P (x_R x)).2.1 (nT q)
        · rw [if_pos (decide_eq_true c5), if_pos c5]
          exact Ag_E e9
        · rw [if_neg (show ¬ decide (v ≠ -1 ∧ v ≠ (z_P (x_R x)).2.1 (nT q)) = true from fun z => c5 (of_decide_eq_true z)), if_neg c5]
          refine PRO (e := (1, nT q, d, -1, false)) e9 hk rfl ⟨⟨(by decide : (1 : Nat) ≤ 3), fun _ => (show nT q < 259 by omega), fun z => absurd (show (1 : Nat) = 0 from z) (by decide), fun z => absurd (show (1 : Nat) = 2 from z) (by decide)⟩, fun z => absurd (show (1 : Nat) = 0 from z) (by decide), fun z => absurd (show (1 : Nat) = 3 from z) (by decide)⟩ (fun _ T2 => ?_) ?_
          · have hG := h.1.2.2.2.2.2.1 k hk T2
            exact (TRq_t e3 (hG.1 (nT q) (by omega))).trans (decide_eq_true c4)
          · show (z_P (x_R (x_pr (1, nT q, d, -1, false) x))).2.1 (nT q) = _
            rw [pr_P _ x (h.1.2.2.1.1.1.trans hk)]
            show upd (z_P (x_R x)).2.1 (nT q) ((z_P (x_R x)).2.1 (nT q) + nI 1) (nT q) = _
            rw [upd_s]
      · have c4 : ¬ (z_P (x_R x)).2.1 (nT q) ≠ -1 := fun z => c3 (by rw [e4]; exact decide_eq_true z)
        rw [if_neg c4, if_neg c3]
        exact Ag_F e9 rfl
    · rw [if_neg c2, if_neg c2]
      exact Ag_F h rfl
  · rw [if_neg c, if_neg c]
    exact Ag_F h rfl
theorem eq_delete {x : zX} {M : mR} {s q v : Int32} (h : INV x M) : Ag [IAE, ISE, NSE, UOE] (z_delete s q v x) (m_delete s q v M) := by
  unfold z_delete m_delete
  by_cases c : (nI 0 ≤ s ∧ s ≤ nI 3) ∧ (nI 1 ≤ q ∧ q ≤ nI 258) ∧ -1 ≤ v
  · rw [if_pos c, if_pos c]
    have hs := (nT_le (by decide) c.1).1
    obtain ⟨hq1, hq, -⟩ := nT_rg (by decide) (by decide) c.2.1
    rw [IV_rc h.1 (show nT s < 4 by omega)]
    by_cases c2 : m_rc M (nT s) = true
    · rw [if_pos c2, if_pos c2]
      obtain ⟨k, hk⟩ := rc_ld c2
      obtain ⟨T', e1, e2, e3, e9⟩ := INV_pl h hk
      rw [e1]
      dsimp only
      have e4 := TRq_t e3 (e2.1 (nT q) (by omega))
      by_cases c3 : T'.1 (nT q) = true
      · have c4 : (z_P (x_R x)).2.1 (nT q) ≠ -1 := by rw [e4] at c3; exact of_decide_eq_true c3
        rw [if_pos c4, if_pos c3]
        have e5 : T'.2.2.1 (nT q) = (z_P (x_R x)).2.1 (nT q) := by
          rcases e2.1 (nT q) (by omega) with ⟨-, -, -, z, -⟩ | ⟨z, -⟩
          · exact z
          · rw [c3] at z; exact nomatch z
        unfold z_ow
        rw [e5]
        by_cases c5 : v ≠ -1 ∧ v ≠ (z_P (x_R x)).2.1 (nT q)
        · rw [if_pos (decide_eq_true c5), if_pos c5]
          exact Ag_E e9
        · rw [if_neg (show ¬ decide (v ≠ -1 ∧ v ≠ (z_P (x_R x)).2.1 (nT q)) = true from fun z => c5 (of_decide_eq_true z)), if_neg c5]
          have e6 : (if nT q < 43 then kidB (fun u => decide ((z_P (x_R x)).2.1 u ≠ -1)) (nT q) 6 else 0) = (if nT q < 43 then kidB T'.1 (nT q) 6 else nI 0) := by
            by_cases c7 : nT q < 43
            · rw [if_pos c7, if_pos c7]
              exact kidB_c 6 (fun u hu => (TRq_t e3 (e2.1 _ (by omega))).symm)
            · rw [if_neg c7, if_neg c7]; rfl
          rw [e6]
          by_cases c6 : (if nT q < 43 then kidB T'.1 (nT q) 6 else nI 0) = 0
          · rw [if_pos c6, if_neg (fun z => z c6)]
            exact PRO (e := (2, nT q, nI 0, -1, false)) e9 hk rfl ⟨⟨(by decide : (2 : Nat) ≤ 3), fun _ => (show nT q < 259 by omega), fun z => absurd (show (2 : Nat) = 0 from z) (by decide), fun _ => hq1⟩, fun z => absurd (show (2 : Nat) = 0 from z) (by decide), fun z => absurd (show (2 : Nat) = 3 from z) (by decide)⟩ (fun z => absurd (show (2 : Nat) = 1 from z) (by decide)) rfl
          · rw [if_neg c6, if_pos c6]
            exact Ag_F e9 rfl
      · have c4 : ¬ (z_P (x_R x)).2.1 (nT q) ≠ -1 := fun z => c3 (by rw [e4]; exact decide_eq_true z)
        rw [if_neg c4, if_neg c3]
        exact Ag_F e9 rfl
    · rw [if_neg c2, if_neg c2]
      exact Ag_F h rfl
  · rw [if_neg c, if_neg c]
    exact Ag_F h rfl
theorem eq_cr {x : zX} {P : mR} {k j up p : Nat} {sq : Bool} {d ow : Int32} (h : INV x P) (hk : P.1.2.1 = some k) (hT : TR (P.2.2.1.1 k) (z_P (x_R x)) P.2.2.2.2.2) (hn : P.2.2.1.1 k < 2 ^ 31) (hu : up < 43) (hp : P.2.2.2.2.2.1 up = true → ¬ (sq = true ∧ P.2.2.2.2.2.2.2.2.1 up = 6) → 1 ≤ p ∧ p < 259) (how : ow = -1 ∨ ∃ s, s < 4 ∧ ow = nI s) (p' : Nat) (hpp : P.2.2.2.2.2.1 up = true → p' = p) : Ag [IAE, ISE, NSE, UOE, IOB] (z_cr1 j up p' sq d ow x) (m_cr up p (if sq = true then 1 else 0) sq d ow P) := by
  unfold z_cr1 m_cr
  have e4 := TRq_t hn (hT.1 up (by omega))
  by_cases c3 : P.2.2.2.2.2.1 up = true
  · have c4 : (z_P (x_R x)).2.1 up ≠ -1 := by rw [e4] at c3; exact of_decide_eq_true c3
    rw [if_pos c4, if_pos c3]
    have e5 : ((z_P (x_R x)).2.2.1 up ≠ -1 ∨ (sq = true ∧ ¬ (z_P (x_R x)).2.2.2 up < nI 6)) ↔ (0 ≤ P.2.2.2.2.2.2.2.2.2 up ∨ (sq = true ∧ P.2.2.2.2.2.2.2.2.1 up = 6)) := by
      rcases hT.1 up (by omega) with ⟨-, -, -, -, z5, z6, -, z8⟩ | ⟨z, -⟩
      · obtain ⟨z61, z62⟩ := z6 hu
        rw [z5, ← z61, nI_ltI (by omega) (by decide)]
        have a1 : (z_P (x_R x)).2.2.1 up ≠ -1 ↔ 0 ≤ (z_P (x_R x)).2.2.1 up := by
          rcases z8 with z8 | ⟨s9, y1, y2⟩
          · rw [z8]; exact ⟨fun z => absurd rfl z, fun z => absurd z (by decide)⟩
          · rw [y2]; exact ⟨fun _ => nI_ge0 (by omega), fun _ => nI_ne (by omega)⟩
        have a2 : ¬ P.2.2.2.2.2.2.2.2.1 up < 6 ↔ P.2.2.2.2.2.2.2.2.1 up = 6 := by omega
        rw [a1, a2]
      · rw [c3] at z; exact nomatch z
    by_cases c5 : 0 ≤ P.2.2.2.2.2.2.2.2.2 up ∨ (sq = true ∧ P.2.2.2.2.2.2.2.2.1 up = 6)
    · rw [if_pos (e5.mpr c5), if_pos c5]
      exact Ag_F h rfl
    · rw [if_neg (fun z => c5 (e5.mp z)), if_neg c5]
      obtain ⟨p1, p2⟩ := hp c3 (fun z => c5 (Or.inr z))
      rw [hpp c3]
      unfold z_cr2
      have e6 := TRq_t hn (hT.1 p p2)
      by_cases c6 : P.2.2.2.2.2.1 p = true
      · rw [if_pos (show (z_P (x_R x)).2.1 p ≠ -1 by rw [e6] at c6; exact of_decide_eq_true c6), if_pos c6]
        exact Ag_F h rfl
      · rw [if_neg (show ¬ (z_P (x_R x)).2.1 p ≠ -1 from fun z => c6 (by rw [e6]; exact decide_eq_true z)), if_neg c6]
        exact PRO (e := (0, p, d, ow, sq)) h hk rfl ⟨⟨(by decide : (0 : Nat) ≤ 3), fun _ => p2, fun _ => p1, fun z => absurd (show (0 : Nat) = 2 from z) (by decide)⟩, fun _ => how, fun z => absurd (show (0 : Nat) = 3 from z) (by decide)⟩ (fun z => absurd (show (0 : Nat) = 1 from z) (by decide)) rfl
  · have c4 : ¬ (z_P (x_R x)).2.1 up ≠ -1 := fun z => c3 (by rw [e4]; exact decide_eq_true z)
    rw [if_neg c4, if_neg c3]
    exact Ag_F h rfl
theorem eq_create {x : zX} {M : mR} {s q d f : Int32} (h : INV x M) : Ag [IAE, ISE, NSE, UOE, IOB] (z_create s q d f x) (m_create s q d f M) := by
  unfold z_create m_create
  have e0 : (if 2 ≤ nT f then nI 0 ≤ q ∧ q ≤ nI (43 - 1) else nI 1 ≤ q ∧ q ≤ nI (259 - 1)) ↔ ((2 ≤ nT f ∧ nI 0 ≤ q ∧ q ≤ nI 42) ∨ (nT f < 2 ∧ nI 1 ≤ q ∧ q ≤ nI 258)) := by
    by_cases c : 2 ≤ nT f
    · rw [if_pos c]
      exact ⟨fun z => Or.inl ⟨c, z⟩, fun z => z.elim (fun y => y.2) (fun y => absurd y.1 (by omega))⟩
    · rw [if_neg c]
      exact ⟨fun z => Or.inr ⟨by omega, z⟩, fun z => z.elim (fun y => absurd y.1 c) (fun y => y.2)⟩
  by_cases c : (nI 0 ≤ s ∧ s ≤ nI 3) ∧ (nI 0 ≤ f ∧ f ≤ nI 3) ∧ ((2 ≤ nT f ∧ nI 0 ≤ q ∧ q ≤ nI 42) ∨ (nT f < 2 ∧ nI 1 ≤ q ∧ q ≤ nI 258))
  · rw [if_pos ⟨c.1, c.2.1, e0.mpr c.2.2⟩, if_pos c]
    obtain ⟨hs, hs2⟩ := nT_le (by decide) c.1
    rw [IV_rc h.1 (show nT s < 4 by omega)]
    by_cases c2 : m_rc M (nT s) = true
    · rw [if_pos c2, if_pos c2]
      obtain ⟨k, hk⟩ := rc_ld c2
      obtain ⟨T', e1, e2, e3, e9⟩ := INV_pl h hk
      have how : (if nT f % 2 = 0 then (-1 : Int32) else s) = -1 ∨ ∃ s9, s9 < 4 ∧ (if nT f % 2 = 0 then (-1 : Int32) else s) = nI s9 := by
        by_cases c5 : nT f % 2 = 0
        · rw [if_pos c5]; exact Or.inl rfl
        · rw [if_neg c5]; exact Or.inr ⟨nT s, by omega, hs2⟩
      rw [e1]
      by_cases c3 : 2 ≤ nT f
      · rw [if_pos c3, if_pos c3]
        have hq : nI 0 ≤ q ∧ q ≤ nI 42 := by
          rcases c.2.2 with z | z
          · exact z.2
          · exact absurd z.1 (by omega)
        have hq2 := (nT_le (by decide) hq).1
        exact eq_cr (sq := true) e9 hk e2 e3 (by omega) (fun z1 z2 => by
          have z3 : ¬ T'.2.2.2.1 (nT q) = 6 := fun y => z2 ⟨rfl, y⟩
          show 1 ≤ 6 * nT q + T'.2.2.2.1 (nT q) + 1 ∧ 6 * nT q + T'.2.2.2.1 (nT q) + 1 < 259
          rcases e2.1 (nT q) (by omega) with ⟨-, -, -, -, -, z6, -⟩ | ⟨z, -⟩
          · have := (z6 (by omega)).2
            omega
          · have z1' : T'.1 (nT q) = true := z1
            rw [z1'] at z; exact nomatch z) how _ (fun z1 => by
          have z1' : T'.1 (nT q) = true := z1
          rcases e2.1 (nT q) (by omega) with ⟨-, -, -, -, -, z6, -⟩ | ⟨z, -⟩
          · rw [← (z6 (by omega)).1, nT_n (by have := (z6 (by omega)).2; omega)]
          · rw [z1'] at z; exact nomatch z)
      · rw [if_neg c3, if_neg c3]
        have hq : nI 1 ≤ q ∧ q ≤ nI 258 := by
          rcases c.2.2 with z | z
          · exact absurd z.1 c3
          · exact z.2
        obtain ⟨hq1, hq2, -⟩ := nT_rg (by decide) (by decide) hq
        exact eq_cr (sq := false) e9 hk e2 e3 (by omega) (fun _ _ => ⟨hq1, by omega⟩) how _ (fun _ => rfl)
    · rw [if_neg c2, if_neg c2]
      exact Ag_F h rfl
  · rw [if_neg (fun z => c ⟨z.1, z.2.1, e0.mp z.2.2⟩), if_neg c]
    exact Ag_F h rfl
theorem nx_M {x : zX} {A : mA} {L : mL} {S : mS} {C : mC} {W : mW} {T : mT} (h : INV x (A, L, S, C, W, T)) : ∀ r, A.2.1 = some r → ∀ u, u < 43 → (grT L r (S.1 r) T).1 u = true → (grT L r (S.1 r) T).2.2.2.1 u ≤ 6 := fun r hr u hu ht => by
  have hG := h.1.2.2.2.2.2.1 r hr T
  rcases hG.1 u (by omega) with ⟨-, -, -, -, -, z6, -⟩ | ⟨z, -⟩
  · exact (z6 hu).2
  · have z2 : (grT L r (S.1 r) T).1 u = false := z
    rw [ht] at z2; exact nomatch z2

/-! THE INVARIANT: what it gives, how a session's row changes -/
theorem eW_x {e : zE} (h : eW e) : mEx (eC e) := by
  obtain ⟨kd, p, d, o, sq⟩ := e
  obtain ⟨⟨k0, k1, k2, k3⟩, ho0, ho3⟩ := h
  dsimp only at k0 k1 k2 k3 ho0 ho3
  rcases (by omega : kd = 0 ∨ kd = 1 ∨ kd = 2 ∨ kd = 3) with rfl | rfl | rfl | rfl
  · cases sq
    · exact ⟨(by decide : (0 : Nat) ≤ 4), k1 (by decide), fun _ => k2 rfl⟩
    · exact ⟨(by decide : (1 : Nat) ≤ 4), k1 (by decide), fun _ => k2 rfl⟩
  · exact ⟨(by decide : (2 : Nat) ≤ 4), k1 (by decide), fun z => absurd (show (2 : Nat) = 1 from z) (by decide)⟩
  · exact ⟨(by decide : (3 : Nat) ≤ 4), k1 (by decide), fun z => absurd (show (3 : Nat) = 1 from z) (by decide)⟩
  · have hp : p = 0 := (ho3 rfl).1
    exact ⟨(by decide : (4 : Nat) ≤ 4), (by rw [hp]; decide : p < 259), fun z => absurd (show (4 : Nat) = 1 from z) (by decide)⟩
theorem IV_m {x : zX} {M : mR} (h : IV x M) : mOK 72 M := by
  have hk := IV_k h
  obtain ⟨h1, h2, ⟨r1, r2, r3, r4⟩, h4, h5, h6, h7⟩ := h
  refine ⟨hk, fun j hj => ?_, SR_o r3, fun i hi => ?_⟩
  · rw [← (r3 j hj).2.1]; exact (h1.1.2.1 j).1
  · obtain ⟨-, t, -, b⟩ := h4 i hi
    have ha := RI_ap h5 hi
    refine ⟨by omega, by omega, fun k hk => ?_⟩
    obtain ⟨-, -, -, -, -, v6⟩ := r2 i hi
    obtain ⟨w1, w2⟩ := v6 k (by omega)
    rw [w2]
    exact eW_x w1
theorem WR_oth {X : wS} {W W' : mW} {s : Nat} (h : WR X W s) (h1 : ∀ q, q < 259 → W'.1 (259 * s + q) = W.1 (259 * s + q)) (h2 : ∀ q, q < 259 → W'.2.1 (259 * s + q) = W.2.1 (259 * s + q)) (h3 : W'.2.2.2 s = W.2.2.2 s) (h4 : ∀ e, e < 8 → W'.2.2.1 (8 * s + e) = W.2.2.1 (8 * s + e)) : WR X W' s := by
  obtain ⟨w1, w2, w3, w4⟩ := h
  refine ⟨fun q hq => ?_, w2.trans h3.symm, w3, fun k hk => ?_⟩
  · rw [h1 q hq, h2 q hq]; exact w1 q hq
  · rw [h4 k (by omega)]; exact w4 k hk
/-- what is left at session k -/
def sSame (C C' : mC) (W W' : mW) (k : Nat) : Prop := C'.1 k = C.1 k ∧ C'.2.2.1 k = C.2.2.1 k ∧ C'.2.2.2.1 k = C.2.2.2.1 k ∧ C'.2.2.2.2 k = C.2.2.2.2 k ∧ (∀ q, q < 259 → W'.1 (259 * k + q) = W.1 (259 * k + q)) ∧ (∀ q, q < 259 → W'.2.1 (259 * k + q) = W.2.1 (259 * k + q)) ∧ W'.2.2.2 k = W.2.2.2 k ∧ ∀ e, e < 8 → W'.2.2.1 (8 * k + e) = W.2.2.1 (8 * k + e)
theorem IV_S {x : zX} {A : mA} {L : mL} {S : mS} {C C' : mC} {W W' : mW} {T T' : mT} {j : Nat} {y : zS} (h : IV x (A, L, S, C, W, T)) (hy : s_sv y < 3) (hj : s_op y = C'.1 j ∧ s_sv y = C'.2.2.1 j ∧ s_to y = C'.2.2.2.1 j ∧ s_he y = C'.2.2.2.2 j ∧ WR (s_X y) W' j) (ho : ∀ k, k < 4 → k ≠ j → sSame C C' W W' k) (hn : s_op y = false → ∀ q, q < 259 → (s_X y).1 q = nI 0) : IV (x_sR x (z_sS (x_R x) j y)) (A, L, S, C', W', T') := by
  obtain ⟨h1, h2, ⟨r1, r2, r3, r4⟩, h4, h5, h6, h7⟩ := h
  have es : ∀ k, z_S (z_sS (x_R x) j y) k = if k = j then y else z_S (x_R x) k := fun k => by
    show va_up (z_S (x_R x)) j y k = _
    by_cases c : k = j
    · subst c; rw [up_s, if_pos rfl]
    · rw [up_n c, if_neg c]
  refine ⟨⟨zOK_sS h1.1 j hy hj.2.2.2.2.2.2.1, h1.2⟩, h2, ⟨r1, r2, fun k hk => ?_, r4⟩, h4, h5, h6, fun k hk hop q hq => ?_⟩
  · show s_op (z_S (z_sS (x_R x) j y) k) = C'.1 k ∧ s_sv (z_S (z_sS (x_R x) j y) k) = C'.2.2.1 k ∧ s_to (z_S (z_sS (x_R x) j y) k) = C'.2.2.2.1 k ∧ s_he (z_S (z_sS (x_R x) j y) k) = C'.2.2.2.2 k ∧ WR (s_X (z_S (z_sS (x_R x) j y) k)) W' k
    rw [es k]
    by_cases c : k = j
    · rw [if_pos c, c]; exact hj
    · rw [if_neg c]
      obtain ⟨o1, o2, o3, o4, o5, o6, o7, o8⟩ := ho k hk c
      obtain ⟨q1, q2, q3, q4, q5⟩ := r3 k hk
      rw [o1, o2, o3, o4]
      exact ⟨q1, q2, q3, q4, WR_oth q5 o5 o6 o7 o8⟩
  · have hop2 : s_op (z_S (z_sS (x_R x) j y) k) = false := hop
    show (s_X (z_S (z_sS (x_R x) j y) k)).1 q = nI 0
    rw [es k] at hop2 ⊢
    by_cases c : k = j
    · rw [if_pos c] at hop2 ⊢; exact hn hop2 q hq
    · rw [if_neg c] at hop2 ⊢; exact h7 k hk hop2 q hq
theorem sS_du {R : zR} {j k : Nat} {y : zS} : s_du (z_S (z_sS R j y) k) = if k = j then s_du y else s_du (z_S R k) := by
  show s_du (va_up (z_S R) j y k) = _
  by_cases c : k = j
  · subst c; rw [up_s, if_pos rfl]
  · rw [up_n c, if_neg c]
/-- an answer of both -/
def Ag (l : List String) (r : zO) (s : Int32 × mR) : Prop := INV r.2 s.2 ∧ ((r.1 = zI s.1 ∧ s.2.1.1 = nI 0) ∨ ∃ c E, l[c]? = some E ∧ r.1 = .inr E ∧ s.2.1.1 = nI (c + 1))
theorem Ag_F {l : List String} {x : zX} {M : mR} {E : String} {c : Nat} (h : INV x M) (hc : l[c]? = some E) : Ag l (.inr E, x) (m_F (c + 1) M) := ⟨h, Or.inr ⟨c, E, hc, rfl, rfl⟩⟩
theorem Ag_E {l : List String} {x : zX} {M : mR} {v : Int32} (h : INV x M) : Ag l (zI v, x) (m_E v M) := by
  have e : m_E v M = (v, m_fa (nI 0) M) := by
    unfold m_E
    rw [enF_nd (show ND (m_fa (nI 0) M) from h.2.2.1)]
  rw [e]
  exact ⟨h, Or.inl ⟨rfl, rfl⟩⟩
theorem Ag_C {l : List String} {x : zX} {M : mR} {v : Int32} (h : IV x M) (hd : DU (x_R x) M) (hp : PN (x_R x)) : Ag l (zI v, x_cd x) (m_E v M) := by
  obtain ⟨-, d2, d3⟩ := CD (M := m_fa (nI 0) M) h hd hp
  refine ⟨d2, Or.inl ⟨rfl, ?_⟩⟩
  show (enF 4 0 (m_fa (nI 0) M)).1.1 = nI 0
  rw [d3]
  rfl
theorem nT_le {s : Int32} {n : Nat} (hn : n < 2 ^ 31) (h : nI 0 ≤ s ∧ s ≤ nI n) : nT s ≤ n ∧ s = nI (nT s) := by
  have h1 : (nI 0).toInt ≤ s.toInt := Int32.le_iff_toInt_le.mp h.1
  have h2 : s.toInt ≤ (nI n).toInt := Int32.le_iff_toInt_le.mp h.2
  rw [nI_toInt (by omega)] at h1
  rw [nI_toInt hn] at h2
  have h3 : nT s = s.toInt.toNat := rfl
  refine ⟨by omega, ?_⟩
  apply Int32.toInt_inj.mp
  rw [nI_toInt (by omega), h3]
  omega
theorem IV_lk {x : zX} {M : mR} (h : IV x M) {i : Nat} (hi : i < 3) : z_lk (x_R x) i = m_lk M i := lk_k h.2.2.1.1.1 (IV_k h) (fun i hi => ⟨(h.2.2.1.2.1 i hi).2.2.2.1, (h.2.2.1.2.1 i hi).2.2.2.2.1⟩) hi
theorem IV_sv {x : zX} {M : mR} (h : IV x M) {j : Nat} (hj : j < 4) : s_sv (z_S (x_R x) j) = M.2.2.2.1.2.2.1 j ∧ M.2.2.2.1.2.2.1 j < 3 := by
  have h1 := (h.2.2.1.2.2.1 j hj).2.1
  exact ⟨h1, by rw [← h1]; exact (h.1.1.2.1 j).1⟩
theorem IV_cn {x : zX} {M : mR} (h : IV x M) {j : Nat} (hj : j < 4) : z_cn (x_R x) j = m_cn M j := by
  obtain ⟨h1, h2⟩ := IV_sv h hj
  unfold z_cn m_cn
  rw [h1, (h.2.2.1.2.2.1 j hj).1, (h.2.2.1.2.1 _ h2).2.2.2.1]
theorem IV_rc {x : zX} {M : mR} (h : IV x M) {j : Nat} (hj : j < 4) : z_rc (x_R x) j = m_rc M j := by
  obtain ⟨h1, h2⟩ := IV_sv h hj
  have e : z_rc (x_R x) j = (z_cn (x_R x) j && (z_lk (x_R x) (s_sv (z_S (x_R x) j)) || decide (z_ld (x_R x) = some (s_sv (z_S (x_R x) j))))) := rfl
  rw [e, IV_cn h hj, h1, IV_lk h h2, h.2.2.1.1.1]
  rfl

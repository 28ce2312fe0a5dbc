/-! ENDING: the class's and the model's -/
theorem cnt_drop {f g : Nat → Bool} {s : Nat} (hf : f s = true) (hg : g s = false) (h : ∀ i, i ≠ s → g i = f i) : ∀ n, cntB g n + (if s < n then 1 else 0) = cntB f n := by
  intro n
  induction n with
  | zero => rfl
  | succ n ih =>
    unfold cntB
    by_cases c : n = s
    · subst c
      rw [if_neg (Nat.lt_irrefl n)] at ih
      rw [hf, hg, if_pos (Nat.lt_succ_self n), if_neg (by decide), if_pos rfl]
      omega
    · rw [h n c]
      by_cases c2 : s < n
      · rw [if_pos c2] at ih
        rw [if_pos (show s < n + 1 by omega)]
        omega
      · rw [if_neg c2] at ih
        rw [if_neg (show ¬ s < n + 1 by omega)]
        omega
theorem cnt_pos {f : Nat → Bool} {s : Nat} : ∀ {n : Nat}, s < n → f s = true → 0 < cntB f n := by
  intro n
  induction n with
  | zero => intro h _; omega
  | succ n ih =>
    intro h hf
    unfold cntB
    by_cases c : s = n
    · subst c; rw [hf, if_pos rfl]; omega
    · have := ih (by omega) hf; omega
theorem cnt_z {f : Nat → Bool} : ∀ {n : Nat}, (∀ i, i < n → f i = false) → cntB f n = 0 := by
  intro n
  induction n with
  | zero => intro _; rfl
  | succ n ih => intro h; unfold cntB; rw [ih (fun i hi => h i (by omega)), h n (by omega)]; rfl
theorem nI_inj {a b : Nat} (ha : a < 2 ^ 31) (hb : b < 2 ^ 31) (h : nI a = nI b) : a = b := by
  have h1 := congrArg Int32.toInt h
  rw [nI_toInt ha, nI_toInt hb] at h1
  omega
theorem oc_close {t : zT} {s : Nat} {p : Nat} {d : Int32} {b : Bool} (hs : s < 4) (h : 0 < coT t (nI s)) : oc (playR (3, p, d, nI s, b) t) + 1 = oc t := by
  have eP : (playR (3, p, d, nI s, b) t).2.2.1 = owdK t.2.2.1 t.2.2.1 (nI s) 259 := rfl
  have e1 : coT (playR (3, p, d, nI s, b) t) (nI s) = 0 := by
    unfold coT
    rw [eP]
    refine cnt_z (fun q hq => ?_)
    unfold owdK
    refine decide_eq_false (fun z => ?_)
    by_cases c : 1 ≤ q ∧ q < 259 ∧ t.2.2.1 q = nI s
    · rw [if_pos c] at z
      exact nI_ne (by omega) z.2.symm
    · rw [if_neg c] at z
      exact c ⟨z.1, hq, z.2⟩
  have e2 : ∀ i, i < 4 → i ≠ s → coT (playR (3, p, d, nI s, b) t) (nI i) = coT t (nI i) := fun i hi hc => by
    unfold coT
    rw [eP]
    refine cntB_c (fun q hq => ?_)
    unfold owdK
    by_cases c : 1 ≤ q ∧ q < 259 ∧ t.2.2.1 q = nI s
    · rw [if_pos c]
      rw [decide_eq_false (fun z => nI_ne (by omega) z.2.symm), decide_eq_false (fun z => hc (nI_inj (by omega) (by omega) (z.2.symm.trans c.2.2)))]
    · rw [if_neg c]
  unfold oc
  have h9 := cnt_drop (f := fun i => decide (0 < coT t (nI i))) (g := fun i => if i < 4 then decide (0 < coT (playR (3, p, d, nI s, b) t) (nI i)) else decide (0 < coT t (nI i))) (s := s) (decide_eq_true h) (by rw [if_pos hs, e1]; rfl) (fun i hi => by
    by_cases c : i < 4
    · rw [if_pos c, e2 i c hi]
    · rw [if_neg c]) 4
  rw [if_pos hs] at h9
  rw [← h9]
  congr 1
theorem oc_le (t : zT) : oc t ≤ 4 := cntB_le _ 4
theorem oc_pos {t : zT} {s : Nat} (hs : s < 4) (h : 0 < coT t (nI s)) : 0 < oc t := cnt_pos hs (decide_eq_true h)
theorem ow_eq {n : Nat} {t : zT} {T : mT} (h : TR n t T) {s : Nat} (hs : s < 4) : owT T (nI s) = coT t (nI s) := by
  unfold owT coT
  refine cntB_c (fun q hq => ?_)
  rcases h.1 q hq with ⟨h1, -, -, -, h5, -⟩ | ⟨h1, -, h5⟩
  · rw [h1, h5]
    simp
  · rw [h1, h5, decide_eq_false (fun z => nomatch z.2.1), decide_eq_false (fun z => nI_ne (by omega) z.2.symm)]
theorem GT_ow {t t' : zT} {L : mL} {b n : Nat} (h : GT t L b n) (h' : GT t' L b n) : oc t = oc t' := by
  unfold oc
  refine cntB_c (fun s hs => ?_)
  rw [← ow_eq (h ((fun _ => false), (fun _ => 0), (fun _ => 0), (fun _ => 0), (fun _ => 0))) hs, ow_eq (h' _) hs]
theorem SR_c {R R' : zR} {C : mC} {W : mW} (h : SR R C W) (he : ∀ j, j < 4 → s_X (z_S R' j) = s_X (z_S R j) ∧ s_op (z_S R' j) = s_op (z_S R j) ∧ s_sv (z_S R' j) = s_sv (z_S R j) ∧ s_to (z_S R' j) = s_to (z_S R j) ∧ s_he (z_S R' j) = s_he (z_S R j)) : SR R' C W := fun j hj => by
  obtain ⟨e1, e2, e3, e4, e5⟩ := he j hj
  rw [e1, e2, e3, e4, e5]
  exact h j hj
theorem nd_S (i : Nat) (R : zR) (j : Nat) : z_S (z_nd i R) j = if j = i then (s_X (z_S R j), s_op (z_S R j), false, s_sv (z_S R j), s_to (z_S R j), s_he (z_S R j)) else z_S R j := by
  show va_up (z_S R) i _ j = _
  by_cases c : j = i
  · subst c; rw [up_s, if_pos rfl]
  · rw [up_n c, if_neg c]
theorem IV_nd {x : zX} {M : mR} (i : Nat) (h : IV x M) : IV (x_sR x (z_nd i (x_R x))) M := by
  obtain ⟨h1, h2, ⟨r1, r2, r3, r4⟩, h4, h5, h6, h7⟩ := h
  have hs := nd_S i (x_R x)
  refine ⟨⟨zOK_nd h1.1 i, h1.2⟩, h2, ⟨r1, r2, SR_c r3 (fun j hj => ?_), r4⟩, h4, h5, h6, fun j hj ho q hq => ?_⟩
  · show s_X (z_S (z_nd i (x_R x)) j) = _ ∧ s_op (z_S (z_nd i (x_R x)) j) = _ ∧ s_sv (z_S (z_nd i (x_R x)) j) = _ ∧ s_to (z_S (z_nd i (x_R x)) j) = _ ∧ s_he (z_S (z_nd i (x_R x)) j) = _
    rw [hs j]
    split <;> exact ⟨rfl, rfl, rfl, rfl, rfl⟩
  · have ho2 : s_op (z_S (z_nd i (x_R x)) j) = false := ho
    show (s_X (z_S (z_nd i (x_R x)) j)).1 q = nI 0
    rw [hs j] at ho2 ⊢
    by_cases c : j = i
    · rw [if_pos c] at ho2 ⊢; exact h7 j hj ho2 q hq
    · rw [if_neg c] at ho2 ⊢; exact h7 j hj ho2 q hq
theorem DU_nd {R : zR} {M M' : mR} {i : Nat} (h : ∀ j, j < 4 → j ≠ i → s_du (z_S R j) = M'.2.2.2.1.2.1 j) (h2 : M'.2.2.2.1.2.1 i = false) : DU (z_nd i R) M' := fun j hj => by
  rw [nd_S i R j]
  by_cases c : j = i
  · rw [if_pos c, c]; exact h2.symm
  · rw [if_neg c]; exact h j hj c
theorem eW_cl {i : Nat} (hi : i < 4) : eW (3, 0, nI 0, nI i, false) := ⟨eOK_cl i, fun z => absurd (show (3 : Nat) = 0 from z) (by decide), fun _ => ⟨rfl, i, hi, rfl⟩⟩
def ndM (M M' : mR) (i : Nat) : Prop := M'.1 = M.1 ∧ M'.2.2.1.2.2.2 = M.2.2.1.2.2.2 ∧ M'.2.2.2.1.2.1 = va_up M.2.2.2.1.2.1 i false
/-- a due session is closed in both -/
theorem CLS {x : zX} {M : mR} {i : Nat} (hi : i < 4) (h : IV x M) (hd : DU (x_R x) M) : clC i x ∧ ∃ M', IV (cl1 i x) M' ∧ DU (x_R (cl1 i x)) M' ∧ ndM M M' i ∧ (k_qr M.1.2.1 M.2.2.1.2.2.2 = true → M' = en1 i M) := by
  have hdi := hd i hi
  cases cd : s_du (z_S (x_R x) i) with
  | false =>
    rw [cd] at hdi
    refine ⟨fun z => ?_, M, ?_, ?_, ⟨rfl, rfl, (up_id hdi.symm).symm⟩, fun _ => ?_⟩
    · rw [cd] at z; exact nomatch z
    · unfold cl1; rw [cd, if_neg (by decide)]; exact h
    · unfold cl1; rw [cd, if_neg (by decide)]; exact hd
    · unfold en1; rw [← hdi, if_neg (fun z => nomatch z.1)]
  | true =>
    rw [cd] at hdi
    have hk := IV_k h
    obtain ⟨⟨fa, ld, ep, tm⟩, L, ⟨ln, ap, ag, D⟩, C, W, T⟩ := M
    have dnd : ∀ j, j < 4 → j ≠ i → s_du (z_S (x_R x) j) = va_up C.2.1 i false j := fun j hj hc => by rw [up_n hc]; exact hd j hj
    have dpr : ∀ e, ∀ j, j < 4 → j ≠ i → s_du (z_S (x_R (x_pr e x)) j) = va_up C.2.1 i false j := fun e j hj hc => by rw [← dnd j hj hc]; exact congrArg (fun x => x.2.1) (pr_S e x j).1
    cases ld with
    | none =>
      have hz : z_ld (x_R x) = none := h.2.2.1.1.1
      obtain ⟨M', hM⟩ : ∃ M' : mR, M' = ((fa, none, ep, tm), L, (ln, ap, ag, D), (C.1, va_up C.2.1 i false, C.2.2), W, T) := ⟨_, rfl⟩
      have I0 : IV x M' := by rw [hM]; exact h
      have hC : M'.2.2.2.1.2.1 = va_up C.2.1 i false := by rw [hM]
      have hp : prM (eC (3, 0, nI 0, nI i, false)) M' = M' := by rw [hM]; rfl
      have hl : M'.1.2.1 = none := by rw [hM]
      have I1 : IV (x_pr (3, 0, nI 0, nI i, false) x) M' := by
        have := IV_pr I0 (eW_cl hi) (fun r z => by rw [hl] at z; exact nomatch z) (fun r z => by rw [hl] at z; exact nomatch z)
        rw [hp] at this
        exact this
      have hfin : IV (cl1 i x) M' ∧ DU (x_R (cl1 i x)) M' := by
        unfold cl1
        rw [cd, if_pos rfl]
        by_cases c : 0 < z_cO (x_R x) (nI i)
        · rw [if_pos c]
          exact ⟨IV_nd i I1, DU_nd (M := M') (fun j hj hc => by rw [hC]; exact dpr _ j hj hc) (by rw [hC, up_s])⟩
        · rw [if_neg c]
          exact ⟨IV_nd i I0, DU_nd (M := M') (fun j hj hc => by rw [hC]; exact dnd j hj hc) (by rw [hC, up_s])⟩
      refine ⟨fun _ _ k hk9 => (by rw [hz] at hk9; exact (nomatch hk9)), M', hfin.1, hfin.2, ?_, fun z => ?_⟩
      · rw [hM]; exact ⟨rfl, rfl, rfl⟩
      · have z2 : k_qr none D = true := z
        rw [k_qr_none] at z2
        exact nomatch z2
    | some k =>
      have hk3 := hk k rfl
      have hP : GT (z_P (x_R x)) L k (ln k) := h.2.2.2.2.2.1 k rfl
      have how : owT (grT L k (ln k) T) (nI i) = z_cO (x_R x) (nI i) := ow_eq (hP T) hi
      obtain ⟨T', hT'⟩ : ∃ T', T' = grT L k (ln k) T := ⟨_, rfl⟩
      rw [← hT'] at how
      obtain ⟨M0, hM⟩ : ∃ M0 : mR, M0 = ((fa, some k, ep, tm), L, (ln, ap, ag, D), (C.1, va_up C.2.1 i false, C.2.2), W, T') := ⟨_, rfl⟩
      have hpn : m_nd i (pnM ((fa, some k, ep, tm), L, (ln, ap, ag, D), C, W, T)) = M0 := by rw [hM, hT']; rfl
      have how2 : owT (pnM ((fa, some k, ep, tm), L, (ln, ap, ag, D), C, W, T)).2.2.2.2.2 (nI i) = z_cO (x_R x) (nI i) := by rw [← how, hT']; rfl
      have I0 : IV x M0 := by rw [hM]; exact h
      have hC : M0.2.2.2.1.2.1 = va_up C.2.1 i false := by rw [hM]
      obtain ⟨-, t, b2, b3⟩ := h.2.2.2.1 k hk3
      have b4 : ln k + oc (z_P (x_R x)) ≤ 64 := by rw [← GT_ow b2 hP]; exact b3
      have e1 : k_qr (some k) D = true → en1 i ((fa, some k, ep, tm), L, (ln, ap, ag, D), C, W, T) = if 0 < z_cO (x_R x) (nI i) then prM (4, 0, nI 0, nI i) M0 else M0 := fun z => by
        unfold en1
        rw [hpn, how2]
        exact if_pos ⟨hdi.symm, z⟩
      by_cases c : 0 < z_cO (x_R x) (nI i)
      · have c2 : 0 < coT (z_P (x_R x)) (nI i) := c
        have hoc := oc_close (p := 0) (d := nI 0) (b := false) hi c2
        have hl : M0.1.2.1 = some k := by rw [hM]
        have hlk : M0.2.2.1.1 = ln := by rw [hM]
        have I1 : IV (x_pr (3, 0, nI 0, nI i, false) x) (prM (4, 0, nI 0, nI i) M0) := IV_pr I0 (eW_cl hi) (fun r z y => absurd (show (3 : Nat) = 1 from y) (by decide)) (fun r z => by
          rw [hl] at z
          have : k = r := Option.some.inj z
          subst this
          rw [hlk]; omega)
        obtain ⟨q1, q2, q3⟩ := prM_1 (4, 0, nI 0, nI i) M0
        refine ⟨fun _ _ k' hk9 => ?_, prM (4, 0, nI 0, nI i) M0, ?_, ?_, ⟨?_, ?_, ?_⟩, fun z => ?_⟩
        · have hz : z_ld (x_R x) = some k := h.2.2.1.1.1
          rw [hz] at hk9
          have : k = k' := Option.some.inj hk9
          subst this
          rw [(h.2.2.1.2.1 k hk3).1]
          have := oc_pos hi c2
          show ln k < 64
          omega
        · unfold cl1
          rw [cd, if_pos rfl, if_pos c]
          exact IV_nd i I1
        · unfold cl1
          rw [cd, if_pos rfl, if_pos c]
          exact DU_nd (M := M0) (fun j hj hc => by rw [q2, hC]; exact dpr _ j hj hc) (by rw [q2, hC, up_s])
        · rw [q1, hM]
        · rw [q3, hM]
        · rw [q2, hC]
        · rw [e1 z, if_pos c]
      · refine ⟨fun _ z => absurd z c, M0, ?_, ?_, ⟨?_, ?_, ?_⟩, fun z => ?_⟩
        · unfold cl1
          rw [cd, if_pos rfl, if_neg c]
          exact IV_nd i I0
        · unfold cl1
          rw [cd, if_pos rfl, if_neg c]
          exact DU_nd (M := M0) (fun j hj hc => by rw [hC]; exact dnd j hj hc) (by rw [hC, up_s])
        · rw [hM]
        · rw [hM]
        · rw [hC]
        · rw [e1 z, if_neg c]
theorem CLG : ∀ (g i : Nat) (x : zX) (M : mR), i + g = 4 → IV x M → DU (x_R x) M → clOK g i x ∧ ∃ M', IV (clG g i x) M' ∧ DU (x_R (clG g i x)) M' ∧ M'.1 = M.1 ∧ M'.2.2.1.2.2.2 = M.2.2.1.2.2.2 ∧ (∀ j, i ≤ j → j < 4 → M'.2.2.2.1.2.1 j = false) ∧ (∀ j, j < i → M'.2.2.2.1.2.1 j = M.2.2.2.1.2.1 j) ∧ (k_qr M.1.2.1 M.2.2.1.2.2.2 = true → M' = enF g i M) := by
  intro g
  induction g with
  | zero =>
    intro i x M h1 h2 h3
    exact ⟨trivial, M, h2, h3, rfl, rfl, fun j a b => by omega, fun _ _ => rfl, fun _ => rfl⟩
  | succ g ih =>
    intro i x M h1 h2 h3
    obtain ⟨c1, M1, c2, c3, ⟨c4, c5, c6⟩, c7⟩ := CLS (by omega : i < 4) h2 h3
    obtain ⟨d1, M2, d2, d3, d4, d5, d6, d7, d8⟩ := ih (i + 1) (cl1 i x) M1 (by omega) c2 c3
    refine ⟨⟨c1, d1⟩, M2, d2, d3, d4.trans c4, d5.trans c5, fun j hj hj4 => ?_, fun j hj => ?_, fun z => ?_⟩
    · by_cases c : j = i
      · subst c
        rw [d7 j (by omega), c6, up_s]
      · exact d6 j (by omega) hj4
    · rw [d7 j (by omega), c6, up_n (by omega)]
    · have z1 := c7 z
      rw [d8 (by rw [c4, c5]; exact z), z1]
      rfl
def ND (M : mR) : Prop := k_qr M.1.2.1 M.2.2.1.2.2.2 = true → ∀ j, j < 4 → M.2.2.2.1.2.1 j = false
theorem en1_id {M : mR} {s : Nat} (h : ¬ (M.2.2.2.1.2.1 s = true ∧ k_qr M.1.2.1 M.2.2.1.2.2.2 = true)) : en1 s M = M := by unfold en1; rw [if_neg h]
theorem enF_id {M : mR} (h : ∀ s, s < 4 → ¬ (M.2.2.2.1.2.1 s = true ∧ k_qr M.1.2.1 M.2.2.1.2.2.2 = true)) : ∀ g s, s + g = 4 → enF g s M = M := by
  intro g
  induction g with
  | zero => intro s _; rfl
  | succ g ih =>
    intro s hs
    have e : enF (g + 1) s M = enF g (s + 1) (en1 s M) := rfl
    rw [e, en1_id (h s (by omega))]
    exact ih (s + 1) (by omega)
theorem enF_nd {M : mR} (h : ND M) : enF 4 0 M = M := enF_id (fun s hs z => by have := h z.2 s hs; rw [this] at z; exact nomatch z.1) 4 0 rfl
/-- the planned tree's numbers -/
def PN (R : zR) : Prop := ∀ p, p < 43 → ∃ m, m ≤ 6 ∧ (z_P R).2.2.2 p = nI m
def INV (x : zX) (M : mR) : Prop := IV x M ∧ DU (x_R x) M ∧ ND M ∧ PN (x_R x)
theorem IV_PN {x : zX} {M : mR} {k : Nat} (h : IV x M) (hk : M.1.2.1 = some k) : PN (x_R x) := (h.2.2.2.2.2.1 k hk ((fun _ => false), (fun _ => 0), (fun _ => 0), (fun _ => 0), (fun _ => 0))).2
theorem IV_q {x : zX} {M : mR} (h : IV x M) : z_qr (x_R x) = k_qr M.1.2.1 M.2.2.1.2.2.2 := qr_k h.2.2.1.1.1 (IV_k h) (fun i hi => ⟨(h.2.2.1.2.1 i hi).2.2.2.1, (h.2.2.1.2.1 i hi).2.2.2.2.1⟩)
theorem CD {x : zX} {M : mR} (h : IV x M) (hd : DU (x_R x) M) (hp : PN (x_R x)) : clOK 4 0 x ∧ INV (x_cd x) (enF 4 0 M) ∧ (enF 4 0 M).1 = M.1 := by
  obtain ⟨d1, M2, d2, d3, d4, d5, d6, d7, d8⟩ := CLG 4 0 x M rfl h hd
  obtain ⟨M3, h3⟩ : ∃ M3, M3 = enF 4 0 M := ⟨_, rfl⟩
  rw [← h3] at d8 ⊢
  refine ⟨d1, ?_⟩
  unfold x_cd
  rw [IV_q h]
  cases c : k_qr M.1.2.1 M.2.2.1.2.2.2 with
  | true =>
    rw [if_pos rfl, ← d8 c]
    refine ⟨⟨d2, d3, fun _ j hj => d6 j (Nat.zero_le _) hj, ?_⟩, d4⟩
    cases e : M.1.2.1 with
    | none => rw [e, k_qr_none] at c; exact nomatch c
    | some k => exact IV_PN d2 (by rw [d4]; exact e)
  | false =>
    have e : M3 = M := by
      rw [h3]
      exact enF_id (fun s hs z => by rw [c] at z; exact nomatch z.2) 4 0 rfl
    rw [if_neg (by decide), e]
    exact ⟨⟨h, hd, fun z => (by rw [c] at z; exact nomatch z), hp⟩, rfl⟩

/-! THE VOTES: what two of three know -/
def Qu (S : mS) (a c i : Nat) : Prop := a < S.2.2.1 i ∨ (S.2.2.1 i = a ∧ c ≤ S.1 i)
def RI (ld : Option Nat) (ep : Nat) (L : mL) (S : mS) : Prop := ∃ (C : Nat → zM) (c a : Nat), a ≤ ep ∧ (∀ i, i < 3 → S.2.2.1 i ≤ ep ∧ S.2.1 i ≤ c ∧ S.2.1 i ≤ S.1 i ∧ (∀ j, j < S.2.1 i → eL L (80 * i + j) = C j) ∧ (Qu S a c i → c ≤ S.1 i ∧ ∀ j, j < c → eL L (80 * i + j) = C j)) ∧ (∃ i1 i2, i1 < 3 ∧ i2 < 3 ∧ i1 ≠ i2 ∧ Qu S a c i1 ∧ Qu S a c i2) ∧ ∀ k, ld = some k → c ≤ S.1 k ∧ (∀ j, j < c → eL L (80 * k + j) = C j) ∧ ∀ i, i < 3 → S.2.2.1 i = ep → S.1 i ≤ S.1 k ∧ ∀ j, j < S.1 i → eL L (80 * i + j) = eL L (80 * k + j)
theorem RI_use {ld : Option Nat} {ep k i : Nat} {L : mL} {S : mS} (h : RI ld ep L S) (hk : ld = some k) (hi : i < 3) : S.2.1 i ≤ S.1 k ∧ ∀ j, j < S.2.1 i → eL L (80 * i + j) = eL L (80 * k + j) := by
  obtain ⟨C, c, a, ha, h2, -, h4⟩ := h
  obtain ⟨k1, k2, -⟩ := h4 k hk
  obtain ⟨-, i2, -, i4, -⟩ := h2 i hi
  exact ⟨by omega, fun j hj => (i4 j hj).trans (k2 j (by omega)).symm⟩
theorem RI_ap {ld : Option Nat} {ep i : Nat} {L : mL} {S : mS} (h : RI ld ep L S) (hi : i < 3) : S.2.1 i ≤ S.1 i := by
  obtain ⟨C, c, a, ha, h2, -, h4⟩ := h
  exact (h2 i hi).2.2.1
theorem RI_copy {ld : Option Nat} {ep k : Nat} {L L' : mL} {ln ap ag ln' ag' : Nat → Nat} {D D' : mD} {lk : Nat → Bool} (h : RI ld ep L (ln, ap, ag, D)) (hld : ld = some k) (hk : k < 3) (hb : ∀ i, i < 3 → ln i ≤ 80)
    (h1 : ∀ i, i < 3 → ln' i = if lk i = true then ln k else ln i) (h2 : ∀ i j, i < 3 → j < 80 → eL L' (80 * i + j) = if lk i = true ∧ j < ln k then eL L (80 * k + j) else eL L (80 * i + j)) (h3 : ∀ i, i < 3 → ag' i = if lk i = true then ep else ag i) : RI ld ep L' (ln', ap, ag', D') := by
  obtain ⟨C, c, a, ha, hi, ⟨i1, i2, q1, q2, q3, q4, q5⟩, h4⟩ := h
  obtain ⟨k1, k2, k3⟩ := h4 k hld
  unfold Qu at hi q4 q5
  dsimp only at hi q4 q5 k1 k2 k3
  have kt : ∀ i, i < 3 → lk i = true → ln' i = ln k ∧ ag' i = ep ∧ ∀ j, j < ln k → eL L' (80 * i + j) = eL L (80 * k + j) := fun i hi c => ⟨by rw [h1 i hi, if_pos c], by rw [h3 i hi, if_pos c], fun j hj => by rw [h2 i j hi (by have := hb k hk; omega), if_pos ⟨c, hj⟩]⟩
  have kf : ∀ i, i < 3 → ¬ lk i = true → ln' i = ln i ∧ ag' i = ag i ∧ ∀ j, j < 80 → eL L' (80 * i + j) = eL L (80 * i + j) := fun i hi c => ⟨by rw [h1 i hi, if_neg c], by rw [h3 i hi, if_neg c], fun j hj => by rw [h2 i j hi hj, if_neg (fun z => c z.1)]⟩
  have kk : ln' k = ln k ∧ ∀ j, j < ln k → eL L' (80 * k + j) = eL L (80 * k + j) := by
    by_cases c : lk k = true
    · exact ⟨(kt k hk c).1, (kt k hk c).2.2⟩
    · exact ⟨(kf k hk c).1, fun j hj => (kf k hk c).2.2 j (by have := hb k hk; omega)⟩
  have qq : ∀ i, i < 3 → (a < ag i ∨ (ag i = a ∧ c ≤ ln i)) → (a < ag' i ∨ (ag' i = a ∧ c ≤ ln' i)) := by
    intro i hi3 q
    by_cases c2 : lk i = true
    · obtain ⟨e1, e2, -⟩ := kt i hi3 c2
      rw [e1, e2]; omega
    · obtain ⟨e1, e2, -⟩ := kf i hi3 c2
      rw [e1, e2]; exact q
  refine ⟨C, c, a, ha, fun i hi3 => ?_, ⟨i1, i2, q1, q2, q3, qq i1 q1 q4, qq i2 q2 q5⟩, fun k' hk' => ?_⟩
  · obtain ⟨j1, j2, j3, j4, j5⟩ := hi i hi3
    unfold Qu
    dsimp only
    by_cases c2 : lk i = true
    · obtain ⟨e1, e2, e3⟩ := kt i hi3 c2
      rw [e1, e2]
      exact ⟨Nat.le_refl _, j2, by omega, fun j hj => (e3 j (by omega)).trans (k2 j (by omega)), fun _ => ⟨k1, fun j hj => (e3 j (by omega)).trans (k2 j hj)⟩⟩
    · obtain ⟨e1, e2, e3⟩ := kf i hi3 c2
      have hb2 := hb i hi3
      rw [e1, e2]
      refine ⟨j1, j2, j3, fun j hj => (e3 j (by omega)).trans (j4 j hj), fun q => ?_⟩
      have := j5 q
      exact ⟨this.1, fun j hj => (e3 j (by omega)).trans (this.2 j hj)⟩
  · have : k' = k := by rw [hk'] at hld; exact Option.some.inj hld
    subst this
    dsimp only
    rw [kk.1]
    refine ⟨k1, fun j hj => (kk.2 j (by omega)).trans (k2 j hj), fun i hi3 he => ?_⟩
    by_cases c2 : lk i = true
    · obtain ⟨e1, e2, e3⟩ := kt i hi3 c2
      rw [e1]
      exact ⟨Nat.le_refl _, fun j hj => (e3 j hj).trans (kk.2 j hj).symm⟩
    · obtain ⟨e1, e2, e3⟩ := kf i hi3 c2
      have hb2 := hb i hi3
      rw [e2] at he
      obtain ⟨m1, m2⟩ := k3 i hi3 he
      rw [e1]
      exact ⟨m1, fun j hj => (e3 j (by omega)).trans ((m2 j hj).trans (kk.2 j (by omega)).symm)⟩
theorem RI_commit {ld : Option Nat} {ep k : Nat} {L : mL} {ln ap ag ap' : Nat → Nat} {D : mD} {lk : Nat → Bool} (h : RI ld ep L (ln, ap, ag, D)) (hld : ld = some k) (hk : k < 3)
    (h1 : ∀ i, i < 3 → lk i = true → ln i = ln k ∧ ag i = ep ∧ ∀ j, j < ln k → eL L (80 * i + j) = eL L (80 * k + j)) (h2 : ∃ i1 i2, i1 < 3 ∧ i2 < 3 ∧ i1 ≠ i2 ∧ lk i1 = true ∧ lk i2 = true) (h3 : ∀ i, i < 3 → ap' i = if lk i = true then ln k else ap i) : RI ld ep L (ln, ap', ag, D) := by
  obtain ⟨C, c, a, ha, hi, -, h4⟩ := h
  obtain ⟨k1, k2, k3⟩ := h4 k hld
  unfold Qu at hi
  dsimp only at hi k1 k2 k3
  obtain ⟨i1, i2, q1, q2, q3, q4, q5⟩ := h2
  have qq : ∀ i, i < 3 → lk i = true → Qu (ln, ap', ag, D) ep (ln k) i := fun i hi3 c2 => by
    obtain ⟨e1, e2, -⟩ := h1 i hi3 c2
    unfold Qu
    dsimp only
    omega
  refine ⟨fun j => eL L (80 * k + j), ln k, ep, Nat.le_refl _, fun i hi3 => ?_, ⟨i1, i2, q1, q2, q3, qq i1 q1 q4, qq i2 q2 q5⟩, fun k' hk' => ?_⟩
  · obtain ⟨j1, j2, j3, j4, j5⟩ := hi i hi3
    unfold Qu
    dsimp only
    rw [h3 i hi3]
    by_cases c2 : lk i = true
    · obtain ⟨e1, e2, e3⟩ := h1 i hi3 c2
      rw [if_pos c2, e1, e2]
      exact ⟨Nat.le_refl _, Nat.le_refl _, Nat.le_refl _, e3, fun _ => ⟨Nat.le_refl _, e3⟩⟩
    · rw [if_neg c2]
      refine ⟨j1, by omega, j3, fun j hj => (j4 j hj).trans (k2 j (by omega)).symm, fun q => ?_⟩
      have he : ag i = ep ∧ ln k ≤ ln i := by omega
      obtain ⟨m1, m2⟩ := k3 i hi3 he.1
      exact ⟨he.2, fun j hj => m2 j (by omega)⟩
  · have : k' = k := by rw [hk'] at hld; exact Option.some.inj hld
    subst this
    exact ⟨Nat.le_refl _, fun j _ => rfl, k3⟩
theorem cnt2 {f : Nat → Bool} (h : 1 < cntB f 3) : ∃ i1 i2, i1 < 3 ∧ i2 < 3 ∧ i1 ≠ i2 ∧ f i1 = true ∧ f i2 = true := by
  have e : cntB f 3 = ((0 + if f 0 then 1 else 0) + if f 1 then 1 else 0) + if f 2 then 1 else 0 := rfl
  rw [e] at h
  cases c0 : f 0 <;> cases c1 : f 1 <;> cases c2 : f 2 <;> rw [c0, c1, c2] at h <;> first
    | exact absurd h (by decide)
    | exact ⟨0, 1, by decide, by decide, by decide, c0, c1⟩
    | exact ⟨0, 2, by decide, by decide, by decide, c0, c2⟩
    | exact ⟨1, 2, by decide, by decide, by decide, c1, c2⟩
/-- spreading, server by server -/
def PRd (E : Nat → zE) (k ep : Nat) (C : mC) (D : mD) (L L' : mL) (ln ln' ag ag' : Nat → Nat) (s : Nat) (R : zR) (X : (Nat → Nat) × mW × mT) : Prop := z_ld R = some k ∧ z_ep R = ep ∧ (∀ i, i < 3 → VR E (if i < s then L' else L) (if i < s then (ln', X.1, ag', D) else (ln, X.1, ag, D)) (z_V R i) i) ∧ SR R C X.2.1 ∧ mWo X.2.1 ∧ (∀ i, i < 3 → GT (z_T R i) L' i (X.1 i)) ∧ ∀ i, s ≤ i → i < 3 → k_lk (some k) D i = true → X.1 i ≤ ln k
theorem PR_ap {E : Nat → zE} {k ep : Nat} {C : mC} {D : mD} {L L' : mL} {ln ln' ag ag' : Nat → Nat} {s : Nat} {R : zR} {X : (Nat → Nat) × mW × mT} (hs : s < 3) (h : PRd E k ep C D L L' ln ln' ag ag' (s + 1) R X) (hl : X.1 s ≤ ln' s) (hb : ln' s ≤ 80) (hv : LV L' s (ln' s)) : PRd E k ep C D L L' ln ln' ag ag' (s + 1) (apR E s R) (s31 L' C ln' s X) := by
  obtain ⟨p1, p2, p3, p4, p5, p6, p7⟩ := h
  have hV := p3 s hs
  rw [if_pos (Nat.lt_succ_self s), if_pos (Nat.lt_succ_self s)] at hV
  obtain ⟨v1, v2, v3, v4, v5, v6⟩ := hV
  dsimp only at v1 v2 v3 v4 v5 v6
  have A := AP (E := E) (i := s) (L := L') (T := X.2.2) p4 p5 (by rw [v2]; exact p6 s hs) (ln' s - X.1 s) (by rw [v2]; omega) (by rw [v2]; exact fun j hj => v6 (X.1 s + j) (by omega)) (by rw [v2, show X.1 s + (ln' s - X.1 s) = ln' s by omega]; exact hv)
  rw [v2, show X.1 s + (ln' s - X.1 s) = ln' s by omega] at A
  obtain ⟨a1, a2, a3⟩ := A
  have e0 : apR E s R = z_sV (apF E s R (ln' s - X.1 s)) s (v_lf (z_V R s), v_ln (z_V R s), v_ln (z_V R s), v_ag (z_V R s), v_up (z_V R s), v_al (z_V R s)) := by
    unfold apR; rw [v1, v2]
  have k0 := apF_0 E s R (ln' s - X.1 s)
  have kV := apF_V E s R (ln' s - X.1 s)
  rw [e0]
  refine ⟨k0.1.trans p1, k0.2.1.trans p2, fun i hi => ?_, a1, a2, fun i hi => ?_, fun i h1 h2 h3 => ?_⟩
  · by_cases c : i = s
    · subst c
      rw [if_pos (Nat.lt_succ_self i), if_pos (Nat.lt_succ_self i)]
      have e1 : z_V (z_sV (apF E i R (ln' i - X.1 i)) i (v_lf (z_V R i), v_ln (z_V R i), v_ln (z_V R i), v_ag (z_V R i), v_up (z_V R i), v_al (z_V R i))) i = (v_lf (z_V R i), v_ln (z_V R i), v_ln (z_V R i), v_ag (z_V R i), v_up (z_V R i), v_al (z_V R i)) := up_s
      rw [e1]
      refine ⟨v1, ?_, v3, v4, v5, v6⟩
      show v_ln (z_V R i) = va_up X.1 i (ln' i) i
      rw [up_s]; exact v1
    · have e1 : z_V (z_sV (apF E s R (ln' s - X.1 s)) s (v_lf (z_V R s), v_ln (z_V R s), v_ln (z_V R s), v_ag (z_V R s), v_up (z_V R s), v_al (z_V R s))) i = z_V R i := (up_n c).trans (congrFun kV i)
      rw [e1]
      have hV2 := p3 i hi
      by_cases c2 : i < s + 1
      · rw [if_pos c2, if_pos c2] at hV2 ⊢
        obtain ⟨w1, w2, w3⟩ := hV2
        refine ⟨w1, ?_, w3⟩
        show v_ap (z_V R i) = va_up X.1 s (ln' s) i
        rw [up_n c]; exact w2
      · rw [if_neg c2, if_neg c2] at hV2 ⊢
        obtain ⟨w1, w2, w3⟩ := hV2
        refine ⟨w1, ?_, w3⟩
        show v_ap (z_V R i) = va_up X.1 s (ln' s) i
        rw [up_n c]; exact w2
  · show GT (z_T (apF E s R (ln' s - X.1 s)) i) L' i (va_up X.1 s (ln' s) i)
    by_cases c : i = s
    · subst c; rw [up_s]; exact a3
    · rw [up_n c, apF_Tn E s R _ i c]; exact p6 i hi
  · show va_up X.1 s (ln' s) i ≤ ln k
    rw [up_n (by omega)]
    exact p7 i h1 h2 h3
def stp (q : Bool) (L' : mL) (C : mC) (ln' : Nat → Nat) (k : Nat) (D : mD) (s : Nat) (X : (Nat → Nat) × mW × mT) : (Nat → Nat) × mW × mT := if k_lk (some k) D s = true then (if q = true then s31 L' C ln' s X else X) else X
theorem PR_step {E : Nat → zE} {k ep : Nat} {C : mC} {D : mD} {L L' : mL} {ln ln' ag ag' : Nat → Nat} {s : Nat} {R : zR} {X : (Nat → Nat) × mW × mT} {q : Bool} (hs : s < 3) (hk : k < 3) (hb : ∀ i, i < 3 → ln i ≤ 80)
    (h1 : ∀ i, i < 3 → ln' i = if k_lk (some k) D i = true then ln k else ln i) (h2 : ∀ i j, i < 3 → j < 80 → eL L' (80 * i + j) = if k_lk (some k) D i = true ∧ j < ln k then eL L (80 * k + j) else eL L (80 * i + j)) (h3 : ∀ i, i < 3 → ag' i = if k_lk (some k) D i = true then ep else ag i) (hv : ∀ i, i < 3 → LV L' i (ln' i)) (h : PRd E k ep C D L L' ln ln' ag ag' s R X) : PRd E k ep C D L L' ln ln' ag ag' (s + 1) (sp1 E q k s R) (stp q L' C ln' k D s X) := by
  have h9 := h
  obtain ⟨p1, p2, p3, p4, p5, p6, p7⟩ := h
  have hud : ∀ i, i < 3 → v_up (z_V R i) = (!D.1 i) ∧ v_al (z_V R i) = D.2 i := fun i hi => by
    have hV := p3 i hi
    by_cases c : i < s
    · rw [if_pos c, if_pos c] at hV; exact ⟨hV.2.2.2.1, hV.2.2.2.2.1⟩
    · rw [if_neg c, if_neg c] at hV; exact ⟨hV.2.2.2.1, hV.2.2.2.2.1⟩
  have hlk : z_lk R s = k_lk (some k) D s := lk_k p1 (fun k' e => by cases e; exact hk) hud hs
  have hVs := p3 s hs
  rw [if_neg (Nat.lt_irrefl s), if_neg (Nat.lt_irrefl s)] at hVs
  obtain ⟨v1, v2, v3, v4, v5, v6⟩ := hVs
  dsimp only at v1 v2 v3 v4 v5 v6
  have hkk : ln' k = ln k ∧ ∀ j, j < ln k → eL L' (80 * k + j) = eL L (80 * k + j) := by
    refine ⟨?_, fun j hj => ?_⟩
    · rw [h1 k hk]; split <;> rfl
    · rw [h2 k j hk (by have := hb k hk; omega)]; split <;> rfl
  have hL : v_ln (z_V R k) = ln k ∧ ∀ j, j < ln k → eW (E ((v_lf (z_V R k) j).getD 0)) ∧ eL L (80 * k + j) = eC (E ((v_lf (z_V R k) j).getD 0)) := by
    have hV := p3 k hk
    by_cases c : k < s
    · rw [if_pos c, if_pos c] at hV
      obtain ⟨w1, -, -, -, -, w6⟩ := hV
      dsimp only at w1 w6
      rw [hkk.1] at w1 w6
      exact ⟨w1, fun j hj => ⟨(w6 j hj).1, (hkk.2 j hj).symm.trans (w6 j hj).2⟩⟩
    · rw [if_neg c, if_neg c] at hV
      exact ⟨hV.1, hV.2.2.2.2.2⟩
  unfold sp1 stp
  rw [hlk]
  by_cases c : k_lk (some k) D s = true
  · rw [if_pos c, if_pos c]
    have e1 : ln' s = ln k := by rw [h1 s hs, if_pos c]
    have F : PRd E k ep C D L L' ln ln' ag ag' (s + 1) (flR k s R) X := by
      refine ⟨p1, p2, fun i hi => ?_, p4, p5, p6, fun i g1 g2 g3 => p7 i (by omega) g2 g3⟩
      by_cases c2 : i = s
      · subst c2
        rw [if_pos (Nat.lt_succ_self i), if_pos (Nat.lt_succ_self i)]
        have e9 : z_V (flR k i R) i = (cpL (v_lf (z_V R k)) (v_lf (z_V R i)) (v_ln (z_V R k)), v_ln (z_V R k), v_ap (z_V R i), z_ep R, v_up (z_V R i), v_al (z_V R i)) := up_s
        rw [e9]
        refine ⟨?_, v2, ?_, v4, v5, ?_⟩
        · show v_ln (z_V R k) = ln' i
          rw [e1]; exact hL.1
        · show z_ep R = ag' i
          rw [h3 i hi, if_pos c]; exact p2
        · intro j hj
          have hj2 : j < ln k := by rw [← e1]; exact hj
          show eW (E ((cpL (v_lf (z_V R k)) (v_lf (z_V R i)) (v_ln (z_V R k)) j).getD 0)) ∧ eL L' (80 * i + j) = eC (E ((cpL (v_lf (z_V R k)) (v_lf (z_V R i)) (v_ln (z_V R k)) j).getD 0))
          have ec : cpL (v_lf (z_V R k)) (v_lf (z_V R i)) (v_ln (z_V R k)) j = v_lf (z_V R k) j := by unfold cpL; rw [hL.1, if_pos hj2]
          rw [ec, h2 i j hi (by have := hb k hk; omega), if_pos ⟨c, hj2⟩]
          exact hL.2 j hj2
      · have e9 : z_V (flR k s R) i = z_V R i := up_n c2
        rw [e9]
        have hV := p3 i hi
        by_cases c3 : i < s
        · rw [if_pos c3, if_pos c3] at hV
          rw [if_pos (by omega), if_pos (by omega)]; exact hV
        · rw [if_neg c3, if_neg c3] at hV
          rw [if_neg (by omega), if_neg (by omega)]; exact hV
    cases q with
    | false => exact F
    | true => exact PR_ap hs F (by rw [e1]; exact p7 s (Nat.le_refl _) hs c) (by rw [e1]; exact hb k hk) (hv s hs)
  · rw [if_neg c, if_neg c]
    refine ⟨p1, p2, fun i hi => ?_, p4, p5, p6, fun i g1 g2 g3 => p7 i (by omega) g2 g3⟩
    have hV := p3 i hi
    by_cases c3 : i < s
    · rw [if_pos c3, if_pos c3] at hV
      rw [if_pos (by omega), if_pos (by omega)]; exact hV
    · rw [if_neg c3, if_neg c3] at hV
      by_cases c2 : i = s
      · subst c2
        rw [if_pos (Nat.lt_succ_self i), if_pos (Nat.lt_succ_self i)]
        have e1 : ln' i = ln i := by rw [h1 i hi, if_neg c]
        refine ⟨?_, v2, ?_, v4, v5, ?_⟩
        · show v_ln (z_V R i) = ln' i
          rw [e1]; exact v1
        · show v_ag (z_V R i) = ag' i
          rw [h3 i hi, if_neg c]; exact v3
        · intro j hj
          have hj2 : j < ln i := by rw [← e1]; exact hj
          rw [h2 i j hi (by have := hb i hi; omega), if_neg (fun z => c z.1)]
          exact v6 j hj2
      · rw [if_neg (by omega), if_neg (by omega)]; exact hV

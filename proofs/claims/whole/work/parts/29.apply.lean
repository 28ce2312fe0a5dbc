/-! THE CLASS: applyLog -/
def q_le : List (Option Value) → List (Option Value) → Prop
  | [], _ => True
  | none :: a, [] => q_le a []
  | none :: a, _ :: b => q_le a b
  | some _ :: _, [] => False
  | some v :: a, x :: b => x = some v ∧ q_le a b
theorem q_le_ok : ∀ (a b : List (Option Value)), q_le a b → ∀ (i : Nat) (v : Value), a[i]? = some (some v) → b[i]? = some (some v) := by
  intro a
  induction a with
  | nil => intro b _ i v h; simp at h
  | cons x a ih =>
    intro b hb i v h
    cases x with
    | none =>
      cases b with
      | nil =>
        cases i with
        | zero => simp at h
        | succ i => exact absurd (ih [] hb i v (by simpa using h)) (by simp)
      | cons y b =>
        cases i with
        | zero => simp at h
        | succ i => simpa using ih b hb i v (by simpa using h)
    | some w =>
      cases b with
      | nil => exact absurd hb (by simp [q_le])
      | cons y b =>
        cases i with
        | zero => rw [← h]; simp [hb.1]
        | succ i => simpa using ih b hb.2 i v (by simpa using h)
theorem q_Ev.fo {l : Launch} {G : q_G} {μ : q_M} {fr lo cc ss pc N : Nat} {lv : List (Option Value)} {st : List Value} {h : q_H} {Q : q_Q} (lv' : List (Option Value)) (hle : q_le lv' lv) (k : q_Ev l G μ fr lo cc ss pc lv' st h N Q) : q_Ev l G μ fr lo cc ss pc lv st h N Q := q_Ev.loc k (q_le_ok lv' lv hle)
/-- all sessions at server i hear e, those below k -/
def hrA (e : zE) (i : Nat) (R : zR) : Nat → zR
  | 0 => R
  | k + 1 => if (s_op (z_S (hrA e i R k) k) && decide (s_sv (z_S (hrA e i R k) k) = i)) = true then z_sS (hrA e i R k) k (hearR e (z_T (hrA e i R k) i) (s_X (z_S (hrA e i R k) k)), (z_S (hrA e i R k) k).2) else hrA e i R k
/-- server i applies e -/
def ap1 (e : zE) (i : Nat) (R : zR) : zR := z_sT (hrA e i R 4) i (playR e (z_T (hrA e i R 4) i))
/-- .. the first n of its LOG that it hasn't applied -/
def apF (E : Nat → zE) (i : Nat) (R : zR) : Nat → zR
  | 0 => R
  | n + 1 => ap1 (E ((v_lf (z_V R i) (v_ap (z_V R i) + n)).getD 0)) i (apF E i R n)
def apR (E : Nat → zE) (i : Nat) (R : zR) : zR := z_sV (apF E i R (v_ln (z_V R i) - v_ap (z_V R i))) i (v_lf (z_V R i), v_ln (z_V R i), v_ln (z_V R i), v_ag (z_V R i), v_up (z_V R i), v_al (z_V R i))
def zSw (R : zR) : Prop := ∀ j, s_sv (z_S R j) < 3 ∧ (s_X (z_S R j)).2.2 ≤ 8
theorem zSw_s {R : zR} (h : zSw R) {j : Nat} {X : wS} (hX : X.2.2 ≤ 8) : zSw (z_sS R j (X, (z_S R j).2)) := by
  intro k
  by_cases c : k = j
  · subst c
    simp only [z_S, z_sS, va_up, if_true]
    exact ⟨(h k).1, hX⟩
  · simp only [z_S, z_sS, va_up, if_neg c]
    exact h k
theorem hrA_w {e : zE} {i : Nat} {R : zR} (h : zSw R) : ∀ k, zSw (hrA e i R k) := by
  intro k
  induction k with
  | zero => exact h
  | succ k ih =>
    unfold hrA
    split
    · exact zSw_s ih (hearR_8 (ih k).2)
    · exact ih
theorem hrA_V (e : zE) (i : Nat) (R : zR) : ∀ k, z_V (hrA e i R k) = z_V R := by
  intro k
  induction k with
  | zero => rfl
  | succ k ih =>
    unfold hrA
    split
    · exact ih
    · exact ih
theorem hrA_T (e : zE) (i : Nat) (R : zR) : ∀ k, z_T (hrA e i R k) = z_T R := by
  intro k
  induction k with
  | zero => rfl
  | succ k ih =>
    unfold hrA
    split
    · exact ih
    · exact ih
theorem hrA_0 (e : zE) (i : Nat) (R : zR) : ∀ k, z_ld (hrA e i R k) = z_ld R ∧ z_ep (hrA e i R k) = z_ep R ∧ z_tm (hrA e i R k) = z_tm R ∧ z_P (hrA e i R k) = z_P R := by
  intro k
  induction k with
  | zero => exact ⟨rfl, rfl, rfl, rfl⟩
  | succ k ih =>
    unfold hrA
    split
    · exact ih
    · exact ih
theorem ap1_w {e : zE} {i : Nat} {R : zR} (h : zSw R) : zSw (ap1 e i R) := hrA_w h 4
theorem apF_w {E : Nat → zE} {i : Nat} {R : zR} (h : zSw R) : ∀ n, zSw (apF E i R n) := by
  intro n
  induction n with
  | zero => exact h
  | succ n ih => exact ap1_w ih
theorem apF_V (E : Nat → zE) (i : Nat) (R : zR) : ∀ n, z_V (apF E i R n) = z_V R := by
  intro n
  induction n with
  | zero => rfl
  | succ n ih => exact (hrA_V _ i _ 4).trans ih
theorem apF_0 (E : Nat → zE) (i : Nat) (R : zR) : ∀ n, z_ld (apF E i R n) = z_ld R ∧ z_ep (apF E i R n) = z_ep R ∧ z_tm (apF E i R n) = z_tm R ∧ z_P (apF E i R n) = z_P R := by
  intro n
  induction n with
  | zero => exact ⟨rfl, rfl, rfl, rfl⟩
  | succ n ih =>
    have := hrA_0 (E ((v_lf (z_V R i) (v_ap (z_V R i) + n)).getD 0)) i (apF E i R n) 4
    exact ⟨this.1.trans ih.1, this.2.1.trans ih.2.1, this.2.2.1.trans ih.2.2.1, this.2.2.2.trans ih.2.2.2⟩
theorem en_up {h : q_H} {R : zR} {a : Nat} {e : zE} (ha : 41 < a) (he : en_Is h a e) : en_Is (zs_put h R) a e := (zs_hi ha).trans he
/-- server i's LOG lies in the heap as E says -/
def zEn (h : q_H) (E : Nat → zE) (v : zV) : Prop := v_ln v ≤ 64 ∧ ∀ j, j < v_ln v → ∃ a, v_lf v j = some a ∧ 41 < a ∧ en_Is h a (E a) ∧ eOK (E a)
set_option maxHeartbeats 4000000 in
set_option maxRecDepth 100000 in
theorem lp_zs_applyLog_in {l : Launch} {G : q_G} (htr : l.stackTraces = false) {h : q_H} {N : Nat} {R : zR} {i jj a : Nat} {e : zE} (hi : i < 3) (hw : zSw R) (ha : 41 < a) (he : en_Is h a e) (hk : eOK e) {Q : q_Q} (kk : q_Ev l G m_zs_applyLog 3 68 0 0 69 [some (.ref 1), some (.int (nI i)), some (.ref (9 + 7 * i)), some (.int (nI jj)), some (.ref a), none] [] (zs_put h (hrA e i R 4)) N Q) : ∀ (g k : Nat), 4 < k + g → k ≤ 4 → q_Ev l G m_zs_applyLog 3 68 0 0 31 [some (.ref 1), some (.int (nI i)), some (.ref (9 + 7 * i)), some (.int (nI jj)), some (.ref a), some (.int (nI k))] [] (zs_put h (hrA e i R k)) N Q := by
  intro g
  induction g with
  | zero => intro k hg hk; omega
  | succ g ih =>
    intro k hg hk9
    have hwk := hrA_w (e := e) (i := i) hw k
    refine e_iload (pc := 31) d_zs_applyLog_31 rfl ?_
    refine e_iconst (pc := 33) d_zs_applyLog_33 (v := (nI (4))) rfl ?_
    refine e_icmp_geN (pc := 34) (tgt := 69) d_zs_applyLog_34 (by decide) (by omega) (by omega) (fun c => ?_) (fun c => ?_)
    · have hkn : k = 4 := by omega
      subst hkn
      exact q_Ev.fo [some (.ref 1), some (.int (nI i)), some (.ref (9 + 7 * i)), some (.int (nI jj)), some (.ref a), none] ⟨rfl, rfl, rfl, rfl, rfl, trivial⟩ kk
    · refine e_aload_n (pc := 37) d_zs_applyLog_37 rfl ?_
      refine e_iload (pc := 38) d_zs_applyLog_38 rfl ?_
      refine e_iload_n (pc := 40) d_zs_applyLog_40 rfl ?_
      refine e_callV (As := [.int (nI (k)), .int (nI (i))]) (st := []) (cc2 := 0) (ss2 := 0) (pc := 41) d_zs_applyLog_41 rfl cv_zs_176 zs_g1 rfl (c_zs_isAt htr c hi (hwk k).1) rfl (by decide) (by decide) (by omega) (by omega) (Nat.le_of_ble_eq_true rfl) (fun _ _ _ hq => nomatch hq.1) (fun r h2 N2 hq => ?_)
      obtain ⟨hr, e1, e2⟩ := hq
      cases hr
      rw [e1, e2]
      clear e1 e2
      show q_Ev l G m_zs_applyLog 3 68 0 0 44 [some (.ref (1)), some (.int (nI (i))), some (.ref (9 + 7 * i)), some (.int (nI (jj))), some (.ref (a)), some (.int (nI (k)))] [.int (bI (s_op (z_S (hrA e i R k) k) && decide (s_sv (z_S (hrA e i R k) k) = i)))] (zs_put h (hrA e i R k)) N _
      refine e_ifB_eq (pc := 44) (tgt := 63) d_zs_applyLog_44 (by decide) (fun c2 => ?_) (fun c2 => ?_)
      · refine e_iincN (pc := 63) d_zs_applyLog_63 (a := k) (b := 1) rfl rfl (by decide) ?_
        refine e_goto (pc := 66) (tgt := 31) d_zs_applyLog_66 (by decide) ?_
        have e1 : hrA e i R (k + 1) = hrA e i R k := by rw [hrA, if_neg (by rw [c2]; decide)]
        have := ih (k + 1) (by omega) (by omega)
        rw [e1] at this
        exact this
      · refine e_aload_n (pc := 47) d_zs_applyLog_47 rfl ?_
        refine e_get (pc := 48) d_zs_applyLog_48 fl_zs_17 zs_g1 rfl ?_
        refine e_iload (pc := 51) d_zs_applyLog_51 rfl ?_
        refine e_aaldN (pc := 53) d_zs_applyLog_53 zs_g3 (fun _ => rfl) (by omega) (by decide) rfl ?_
        refine e_aload (pc := 54) d_zs_applyLog_54 rfl ?_
        refine e_aload_n (pc := 56) d_zs_applyLog_56 rfl ?_
        refine e_get (pc := 57) d_zs_applyLog_57 fl_zs_205 (zs_v hi).1 rfl ?_
        refine e_callV (As := [.ref (a), .ref (9 + 7 * i + 2)]) (st := []) (cc2 := 0) (ss2 := 0) (pc := 60) d_zs_applyLog_60 rfl cv_zs_243 (zs_s c).1 rfl (c_ss_hear htr (zs_s c) (hwk k).2 (zs_t hi) (en_up ha he) hk (by omega) (by omega)) rfl (by decide) (by decide) (by omega) (by omega) (Nat.le_of_ble_eq_true rfl) (fun _ _ _ hq => nomatch hq.1) (fun r h2 N2 hq => ?_)
        obtain ⟨hr, e1, e2⟩ := hq
        cases hr
        rw [e1, e2]
        clear e1 e2
        show q_Ev l G m_zs_applyLog 3 68 0 0 63 [some (.ref (1)), some (.int (nI (i))), some (.ref (9 + 7 * i)), some (.int (nI (jj))), some (.ref (a)), some (.int (nI (k)))] [] _ N _
        rw [zs_uS c]
        refine e_iincN (pc := 63) d_zs_applyLog_63 (a := k) (b := 1) rfl rfl (by decide) ?_
        refine e_goto (pc := 66) (tgt := 31) d_zs_applyLog_66 (by decide) ?_
        have e1 : hrA e i R (k + 1) = z_sS (hrA e i R k) k (hearR e (z_T (hrA e i R k) i) (s_X (z_S (hrA e i R k) k)), (z_S (hrA e i R k) k).2) := by rw [hrA, if_pos c2]
        have := ih (k + 1) (by omega) (by omega)
        rw [e1] at this
        exact this
set_option maxHeartbeats 4000000 in
set_option maxRecDepth 100000 in
theorem lp_zs_applyLog {l : Launch} {G : q_G} (htr : l.stackTraces = false) {h : q_H} {N : Nat} {R : zR} {i : Nat} {E : Nat → zE} (hi : i < 3) (hw : zSw R) (hE : zEn h E (z_V R i)) (hap : v_ap (z_V R i) ≤ 64) : ∀ (g n : Nat), v_ln (z_V R i) - v_ap (z_V R i) < n + g → n ≤ v_ln (z_V R i) - v_ap (z_V R i) → q_Ev l G m_zs_applyLog 3 68 0 0 12 [some (.ref (1)), some (.int (nI (i))), some (.ref (9 + 7 * i)), some (.int (nI (v_ap (z_V R i) + n))), none, none] [] (zs_put h (apF E i R n)) N (q_To none (zs_put h (apR E i R)) N) := by
  intro g
  induction g with
  | zero => intro n hg hk; omega
  | succ g ih =>
    intro n hg hk
    have hV : sv_At (zs_put h (apF E i R n)) (9 + 7 * i) (v_lf (z_V R i)) (v_ln (z_V R i)) (v_ap (z_V R i)) (v_ag (z_V R i)) (v_up (z_V R i)) (v_al (z_V R i)) := by
      have := zs_v (h := h) (R := apF E i R n) hi
      rw [apF_V] at this
      exact this
    have h64 := hE.1
    refine e_iload_n (pc := 12) d_zs_applyLog_12 rfl ?_
    refine e_aload_n (pc := 13) d_zs_applyLog_13 rfl ?_
    refine e_get (pc := 14) d_zs_applyLog_14 fl_zs_179 hV.1 rfl ?_
    refine e_icmp_geN (pc := 17) (tgt := 84) d_zs_applyLog_17 (by decide) (by omega) (by omega) (fun c => ?_) (fun c => ?_)
    · have hn : v_ln (z_V R i) - v_ap (z_V R i) = n := by omega
      refine q_Ev.hp (sv_put_id hV) ?_
      refine e_aload_n (pc := 84) d_zs_applyLog_84 rfl ?_
      refine e_aload_n (pc := 85) d_zs_applyLog_85 rfl ?_
      refine e_get (pc := 86) d_zs_applyLog_86 fl_zs_179 sv_g0 rfl ?_
      refine e_putE (pc := 89) d_zs_applyLog_89 (fs2 := [.ref (9 + 7 * i + 1), .ref (9 + 7 * i + 2), .int (nI (v_ln (z_V R i))), .int (nI (v_ln (z_V R i))), .int (nI (v_ag (z_V R i))), .int (bI (v_up (z_V R i))), .int (bI (v_al (z_V R i)))]) fl_zs_185 sv_g0 (Nat.le_of_ble_eq_true rfl) (fun _ => rfl) (fun _ => rfl) rfl ?_
      rw [sv_u0]
      rw [zs_uV hi]
      exact e_vret (pc := 92) d_zs_applyLog_92 rfl (⟨rfl, by unfold apR; rw [hn], rfl⟩)
    · obtain ⟨a, hla, ha, hen, hok⟩ := hE.2 (v_ap (z_V R i) + n) c
      refine e_aload_n (pc := 20) d_zs_applyLog_20 rfl ?_
      refine e_get (pc := 21) d_zs_applyLog_21 fl_zs_232 hV.1 rfl ?_
      refine e_iload_n (pc := 24) d_zs_applyLog_24 rfl ?_
      refine e_aaldN (pc := 25) d_zs_applyLog_25 hV.2 (fun _ => rfl) (by omega) (by decide) hla ?_
      refine e_astore (pc := 26) d_zs_applyLog_26 (by decide) ?_
      refine e_iconst (pc := 28) d_zs_applyLog_28 (v := (nI (0))) rfl ?_
      refine e_istore (pc := 29) d_zs_applyLog_29 (by decide) ?_
      refine lp_zs_applyLog_in htr hi (apF_w hw n) ha hen hok ?_ 5 0 (by omega) (by omega)
      have hV2 : sv_At (zs_put h (hrA (E a) i (apF E i R n) 4)) (9 + 7 * i) (v_lf (z_V R i)) (v_ln (z_V R i)) (v_ap (z_V R i)) (v_ag (z_V R i)) (v_up (z_V R i)) (v_al (z_V R i)) := by
        have := zs_v (h := h) (R := hrA (E a) i (apF E i R n) 4) hi
        rw [hrA_V, apF_V] at this
        exact this
      refine e_aload_n (pc := 69) d_zs_applyLog_69 rfl ?_
      refine e_get (pc := 70) d_zs_applyLog_70 fl_zs_205 hV2.1 rfl ?_
      refine e_aload (pc := 73) d_zs_applyLog_73 rfl ?_
      refine e_callV (As := [.ref (a)]) (st := []) (cc2 := 0) (ss2 := 0) (pc := 75) d_zs_applyLog_75 rfl cv_zs_226 (zs_t hi).1 rfl (c_tr_play htr (zs_t hi) (en_up ha hen) hok (by omega)) rfl (by decide) (by decide) (by omega) (by omega) (Nat.le_of_ble_eq_true rfl) (fun _ _ _ hq => nomatch hq.1) (fun r h2 N2 hq => ?_)
      obtain ⟨hr, e1, e2⟩ := hq
      cases hr
      rw [e1, e2]
      clear e1 e2
      show q_Ev l G m_zs_applyLog 3 68 0 0 78 [some (.ref (1)), some (.int (nI (i))), some (.ref (9 + 7 * i)), some (.int (nI (v_ap (z_V R i) + n))), some (.ref (a)), none] [] _ N _
      rw [zs_uT hi]
      refine e_iincN (pc := 78) d_zs_applyLog_78 (a := v_ap (z_V R i) + n) (b := 1) rfl rfl (by decide) ?_
      refine e_goto (pc := 81) (tgt := 12) d_zs_applyLog_81 (by decide) ?_
      refine q_Ev.fo [some (.ref (1)), some (.int (nI (i))), some (.ref (9 + 7 * i)), some (.int (nI (v_ap (z_V R i) + (n + 1)))), none, none] ⟨rfl, rfl, rfl, rfl, trivial⟩ ?_
      have e1 : apF E i R (n + 1) = z_sT (hrA (E a) i (apF E i R n) 4) i (playR (E a) (z_T (hrA (E a) i (apF E i R n) 4) i)) := by rw [apF, hla]; rfl
      have := ih (n + 1) (by omega) (by omega)
      rw [e1] at this
      exact this
set_option maxHeartbeats 4000000 in
set_option maxRecDepth 100000 in
theorem c_zs_applyLog {l : Launch} {G : q_G} (htr : l.stackTraces = false) {h : q_H} {N : Nat} {R : zR} {i : Nat} {E : Nat → zE} (hi : i < 3) (hw : zSw R) (hE : zEn h E (z_V R i)) (hap : v_ap (z_V R i) ≤ 64) : q_Met l G m_zs_applyLog 3 68 0 0 [.ref (1), .int (nI (i))] (zs_put h R) N (q_To none (zs_put h (apR E i R)) N) := by
  refine q_Met.mk htr (by decide +kernel) rfl (List.forall_mem_cons.mpr ⟨rfl, List.forall_mem_cons.mpr ⟨rfl, fun _ h => nomatch h⟩⟩) (Nat.le_of_ble_eq_true rfl) ?_
  refine e_aload_n (pc := 0) d_zs_applyLog_0 rfl ?_
  refine e_get (pc := 1) d_zs_applyLog_1 fl_zs_11 zs_g1 rfl ?_
  refine e_iload_n (pc := 4) d_zs_applyLog_4 rfl ?_
  refine e_aaldN (pc := 5) d_zs_applyLog_5 zs_g2 (fun _ => rfl) (by omega) (by decide) rfl ?_
  refine e_astore_n (pc := 6) d_zs_applyLog_6 (by decide) ?_
  refine e_aload_n (pc := 7) d_zs_applyLog_7 rfl ?_
  refine e_get (pc := 8) d_zs_applyLog_8 fl_zs_185 (zs_v hi).1 rfl ?_
  refine e_istore_n (pc := 11) d_zs_applyLog_11 (by decide) ?_
  exact lp_zs_applyLog htr hi hw hE hap _ 0 (Nat.lt_of_lt_of_eq (Nat.lt_succ_self _) (Nat.zero_add _).symm) (by omega)

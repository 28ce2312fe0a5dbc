/-! THE MODEL'S PUBLIC METHODS (1) -/
theorem out_f {v : Int32} {n : Nat} (hn : n + 1 < 2 ^ 31) (h : decide (v < 0 ∨ ¬ v < nI (n + 1)) = false) : nI 0 ≤ v ∧ v ≤ nI n := by
  have h1 := of_decide_eq_false h
  have h2 : ¬ v < 0 := fun z => h1 (Or.inl z)
  have h3 : v < nI (n + 1) := Classical.byContradiction (fun z => h1 (Or.inr z))
  rw [Int32.lt_iff_toInt_lt] at h2 h3
  rw [nI_toInt hn] at h3
  have h0 : (0 : Int32).toInt = 0 := rfl
  rw [h0] at h2
  constructor
  · rw [Int32.le_iff_toInt_le, nI_toInt (by decide)]; omega
  · rw [Int32.le_iff_toInt_le, nI_toInt (by omega)]; omega
theorem out_t {v : Int32} {n : Nat} (hn : n + 1 < 2 ^ 31) (h : decide (v < 0 ∨ ¬ v < nI (n + 1)) = true) : ¬ (nI 0 ≤ v ∧ v ≤ nI n) := by
  intro ⟨h1, h2⟩
  rw [Int32.le_iff_toInt_le] at h1 h2
  rw [nI_toInt (by decide)] at h1
  rw [nI_toInt (by omega)] at h2
  rcases of_decide_eq_true h with h3 | h3
  · rw [Int32.lt_iff_toInt_lt] at h3
    have h0 : (0 : Int32).toInt = 0 := rfl
    omega
  · apply h3
    rw [Int32.lt_iff_toInt_lt, nI_toInt hn]
    omega
def m_fa (c : Int32) (M : mR) : mR := ((c, M.1.2), M.2)
/-- refused with this code -/
def m_F (c : Nat) (M : mR) : Int32 × mR := (nI 0, m_fa (nI c) M)
/-- answered, then what is due is closed -/
def m_E (v : Int32) (M : mR) : Int32 × mR := (v, enF 4 0 (m_fa (nI 0) M))
theorem mCo_up {C : mC} {j i : Nat} (h : mCo C) (hi : i < 3) : ∀ s, s < 4 → va_up C.2.2.1 j i s < 3 := by
  intro s hs
  by_cases c : s = j
  · subst c; simp only [va_up, if_true]; exact hi
  · simp only [va_up, if_neg c]; exact h s hs
theorem m_rc_ld {M : mR} {j : Nat} (h : m_rc M j = true) : ∃ r, M.1.2.1 = some r := by
  cases e : M.1.2.1 with
  | none => exfalso; simp [m_rc, m_lk, e] at h
  | some r => exact ⟨r, rfl⟩
def m_fin (s : Nat) (M : mR) : mR := (M.1, M.2.1, M.2.2.1, (va_up M.2.2.2.1.1 s false, va_up M.2.2.2.1.2.1 s true, M.2.2.2.1.2.2), (fgK M.2.2.2.2.1.1 s 259, fgK M.2.2.2.2.1.2.1 s 259, M.2.2.2.2.1.2.2.1, va_up M.2.2.2.2.1.2.2.2 s 0), M.2.2.2.2.2)
theorem mWo_z {W : mW} {s : Nat} (h : mWo W) : ∀ j, j < 4 → va_up W.2.2.2 s 0 j ≤ 8 := by
  intro j hj
  by_cases c : j = s
  · subst c; simp only [va_up, if_true]; omega
  · simp only [va_up, if_neg c]; exact h j hj
def m_lookT (j : Nat) (M : mR) : mR := (M.1, M.2.1, M.2.2.1, M.2.2.2.1, M.2.2.2.2.1, grT M.2.1 (M.2.2.2.1.2.2.1 j) (M.2.2.1.2.1 (M.2.2.2.1.2.2.1 j)) M.2.2.2.2.2)
def m_look (s q : Int32) (m : Nat) (M : mR) : Int32 × mR := if (nI 0 ≤ s ∧ s ≤ nI 3) ∧ (nI 0 ≤ q ∧ q ≤ nI m) then if m_cn M (nT s) = true then (nI 0, m_lookT (nT s) M) else (nI 2, M) else (nI 1, M)
set_option maxHeartbeats 400000 in
set_option maxRecDepth 100000 in
theorem c_md_look {l : Launch} {G : q_G} (htr : l.stackTraces = false) {h : q_H} {N : Nat} {fa : Int32} {ld : Option Nat} {ep : Nat} {tm : Int32} {L : mL} {S : mS} {C : mC} {W : mW} {T : mT} {s q : Int32} {m : Nat} (hm : m + 1 < 2 ^ 31) {n : Nat} (hn : n ≤ 72) (hO : mOK n ((fa, ld, ep, tm), L, S, C, W, T)) : q_Met l G m_md_look 4 96 0 0 [.ref (42), .int (s), .int (q), .int (nI (m + 1))] (md_put h ((fa, ld, ep, tm), L, S, C, W, T)) N (q_To (some (.int (m_look s q m ((fa, ld, ep, tm), L, S, C, W, T)).1)) (md_put h (m_look s q m ((fa, ld, ep, tm), L, S, C, W, T)).2) N) := by
  obtain ⟨r0, hr0⟩ : ∃ r, r = m_look s q m ((fa, ld, ep, tm), L, S, C, W, T) := ⟨_, rfl⟩
  rw [← hr0]
  refine q_Met.mk htr (by decide +kernel) rfl (List.forall_mem_cons.mpr ⟨rfl, List.forall_mem_cons.mpr ⟨rfl, List.forall_mem_cons.mpr ⟨rfl, List.forall_mem_cons.mpr ⟨rfl, fun _ h => nomatch h⟩⟩⟩⟩) (Nat.le_of_ble_eq_true rfl) ?_
  refine e_aload_n (pc := 0) d_md_look_0 rfl ?_
  refine e_iload_n (pc := 1) d_md_look_1 rfl ?_
  refine e_iconst (pc := 2) d_md_look_2 (v := (nI (4))) rfl ?_
  refine e_callV (As := [.int (s), .int (nI (4))]) (st := []) (cc2 := 0) (ss2 := 0) (pc := 3) d_md_look_3 rfl cv_md_145 md_g42 rfl (c_md_out htr) rfl (by decide) (by decide) (by omega) (by omega) (Nat.le_of_ble_eq_true rfl) (fun _ _ _ hq => nomatch hq.1) (fun r h2 N2 hq => ?_)
  obtain ⟨hr, e1, e2⟩ := hq
  cases hr
  rw [e1, e2]
  clear e1 e2
  show q_Ev l G m_md_look 4 96 0 0 6 [some (.ref (42)), some (.int (s)), some (.int (q)), some (.int (nI (m + 1)))] [.int (bI (decide (s < 0 ∨ ¬ s < nI 4)))] (md_put h ((fa, ld, ep, tm), ((L.1), (L.2.1), (L.2.2.1), (L.2.2.2)), ((S.1), (S.2.1), (S.2.2.1), (S.2.2.2.1), (S.2.2.2.2)), ((C.1), (C.2.1), (C.2.2.1), (C.2.2.2.1), (C.2.2.2.2)), ((W.1), (W.2.1), (W.2.2.1), (W.2.2.2)), ((T.1), (T.2.1), (T.2.2.1), (T.2.2.2.1), (T.2.2.2.2)))) N _
  refine e_ifB_ne (pc := 6) (tgt := 18) d_md_look_6 (by decide) (fun co => ?_) (fun co => ?_)
  · have hs := out_t (n := 3) (by decide) co
    refine e_iconst (pc := 18) d_md_look_18 (v := (nI (1))) rfl ?_
    exact e_iret (pc := 19) d_md_look_19 rfl (by rw [hr0]; unfold m_look; rw [if_neg (fun z => hs z.1)]; exact ⟨rfl, rfl, rfl⟩)
  · have hs := out_f (n := 3) (by decide) co
    refine e_aload_n (pc := 9) d_md_look_9 rfl ?_
    refine e_iload_n (pc := 10) d_md_look_10 rfl ?_
    refine e_iload_n (pc := 11) d_md_look_11 rfl ?_
    refine e_callV (As := [.int (q), .int (nI (m + 1))]) (st := []) (cc2 := 0) (ss2 := 0) (pc := 12) d_md_look_12 rfl cv_md_145 md_g42 rfl (c_md_out htr) rfl (by decide) (by decide) (by omega) (by omega) (Nat.le_of_ble_eq_true rfl) (fun _ _ _ hq => nomatch hq.1) (fun r h2 N2 hq => ?_)
    obtain ⟨hr, e1, e2⟩ := hq
    cases hr
    rw [e1, e2]
    clear e1 e2
    show q_Ev l G m_md_look 4 96 0 0 15 [some (.ref (42)), some (.int (s)), some (.int (q)), some (.int (nI (m + 1)))] [.int (bI (decide (q < 0 ∨ ¬ q < nI (m + 1))))] (md_put h ((fa, ld, ep, tm), ((L.1), (L.2.1), (L.2.2.1), (L.2.2.2)), ((S.1), (S.2.1), (S.2.2.1), (S.2.2.2.1), (S.2.2.2.2)), ((C.1), (C.2.1), (C.2.2.1), (C.2.2.2.1), (C.2.2.2.2)), ((W.1), (W.2.1), (W.2.2.1), (W.2.2.2)), ((T.1), (T.2.1), (T.2.2.1), (T.2.2.2.1), (T.2.2.2.2)))) N _
    refine e_ifB_eq (pc := 15) (tgt := 20) d_md_look_15 (by decide) (fun co2 => ?_) (fun co2 => ?_)
    · have hq := out_f hm co2
      have hs1 := hs
      obtain ⟨j, hj, ej⟩ := q_ofL (n := 3) (by decide) hs
      subst ej
      have haj := hO.2.1 j hj
      refine e_aload_n (pc := 20) d_md_look_20 rfl ?_
      refine e_iload_n (pc := 21) d_md_look_21 rfl ?_
      refine e_callV (As := [.int (nI (j))]) (st := []) (cc2 := 0) (ss2 := 0) (pc := 22) d_md_look_22 rfl cv_md_138 md_g42 rfl (c_md_connected htr hj haj) rfl (by decide) (by decide) (by omega) (by omega) (Nat.le_of_ble_eq_true rfl) (fun _ _ _ hq => nomatch hq.1) (fun r h2 N2 hq => ?_)
      obtain ⟨hr, e1, e2⟩ := hq
      cases hr
      rw [e1, e2]
      clear e1 e2
      show q_Ev l G m_md_look 4 96 0 0 25 [some (.ref (42)), some (.int (nI (j))), some (.int (q)), some (.int (nI (m + 1)))] [.int (bI (m_cn ((fa, ld, ep, tm), L, S, C, W, T) j))] (md_put h ((fa, ld, ep, tm), ((L.1), (L.2.1), (L.2.2.1), (L.2.2.2)), ((S.1), (S.2.1), (S.2.2.1), (S.2.2.2.1), (S.2.2.2.2)), ((C.1), (C.2.1), (C.2.2.1), (C.2.2.2.1), (C.2.2.2.2)), ((W.1), (W.2.1), (W.2.2.1), (W.2.2.2)), ((T.1), (T.2.1), (T.2.2.1), (T.2.2.2.1), (T.2.2.2.2)))) N _
      refine e_ifB_ne (pc := 25) (tgt := 30) d_md_look_25 (by decide) (fun cn => ?_) (fun cn => ?_)
      · have hLj := hO.2.2.2 _ haj
        have hap8 : S.2.1 (C.2.2.1 j) ≤ 80 := by have : S.2.1 (C.2.2.1 j) ≤ n := hLj.2.1; omega
        refine e_aload_n (pc := 30) d_md_look_30 rfl ?_
        refine e_aload_n (pc := 31) d_md_look_31 rfl ?_
        refine e_get (pc := 32) d_md_look_32 fl_md_48 md_g42 rfl ?_
        refine e_iload_n (pc := 35) d_md_look_35 rfl ?_
        refine e_naldN (pc := 36) d_md_look_36 (f := (C.2.2.1)) md_g54 (by omega) (by decide) ?_
        refine e_aload_n (pc := 37) d_md_look_37 rfl ?_
        refine e_get (pc := 38) d_md_look_38 fl_md_25 md_g42 rfl ?_
        refine e_aload_n (pc := 41) d_md_look_41 rfl ?_
        refine e_get (pc := 42) d_md_look_42 fl_md_48 md_g42 rfl ?_
        refine e_iload_n (pc := 45) d_md_look_45 rfl ?_
        refine e_naldN (pc := 46) d_md_look_46 (f := (C.2.2.1)) md_g54 (by omega) (by decide) ?_
        refine e_naldN (pc := 47) d_md_look_47 (f := (S.2.1)) md_g48 (by omega) (by decide) ?_
        refine e_callV (As := [.int (nI (((C.2.2.1)) (j))), .int (nI (((S.2.1)) (((C.2.2.1)) (j))))]) (st := []) (cc2 := 0) (ss2 := 0) (pc := 48) d_md_look_48 rfl cv_md_122 md_g42 rfl (c_md_grow htr hO.2.1 hO.2.2.1 haj hap8 (fun k hk => hLj.2.2 k (Or.inr hk))) rfl (by decide) (by decide) (by omega) (by omega) (Nat.le_of_ble_eq_true rfl) (fun _ _ _ hq => nomatch hq.1) (fun r h2 N2 hq => ?_)
        obtain ⟨hr, e1, e2⟩ := hq
        cases hr
        rw [e1, e2]
        clear e1 e2
        show q_Ev l G m_md_look 4 96 0 0 51 [some (.ref (42)), some (.int (nI (j))), some (.int (q)), some (.int (nI (m + 1)))] [] _ N _
        refine e_iconst (pc := 51) d_md_look_51 (v := (nI (0))) rfl ?_
        exact e_iret (pc := 52) d_md_look_52 rfl (by rw [hr0]; unfold m_look; rw [if_pos ⟨hs1, hq⟩, nT_n (by omega), if_pos cn]; exact ⟨rfl, rfl, rfl⟩)
      · refine e_iconst (pc := 28) d_md_look_28 (v := (nI (2))) rfl ?_
        exact e_iret (pc := 29) d_md_look_29 rfl (by rw [hr0]; unfold m_look; rw [if_pos ⟨hs1, hq⟩, nT_n (by omega), if_neg (by rw [cn]; decide)]; exact ⟨rfl, rfl, rfl⟩)
    · have hq := out_t hm co2
      refine e_iconst (pc := 18) d_md_look_18 (v := (nI (1))) rfl ?_
      exact e_iret (pc := 19) d_md_look_19 rfl (by rw [hr0]; unfold m_look; rw [if_neg (fun z => hq z.2)]; exact ⟨rfl, rfl, rfl⟩)
def m_open (s i to : Int32) (M : mR) : Int32 × mR := if (nI 0 ≤ s ∧ s ≤ nI 3) ∧ (nI 0 ≤ i ∧ i ≤ nI 2) ∧ (nI 1 ≤ to ∧ to ≤ nI 50) then if M.2.2.2.1.1 (nT s) = false ∧ M.2.2.2.1.2.1 (nT s) = false ∧ m_lk M (nT i) = true ∧ m_qr M = true then m_E (M.1.2.2.2 + to) (M.1, M.2.1, M.2.2.1, (va_up M.2.2.2.1.1 (nT s) true, M.2.2.2.1.2.1, va_up M.2.2.2.1.2.2.1 (nT s) (nT i), upd M.2.2.2.1.2.2.2.1 (nT s) to, upd M.2.2.2.1.2.2.2.2 (nT s) M.1.2.2.2), M.2.2.2.2) else m_F 2 M else m_F 1 M
theorem to_rg {to : Int32} : (nI 0 ≤ to - nI 1 ∧ to - nI 1 ≤ nI 49) ↔ (nI 1 ≤ to ∧ to ≤ nI 50) := by
  constructor
  · intro h
    obtain ⟨k, hk, e⟩ := q_ofL (n := 49) (by decide) h
    have e2 : to = nI (k + 1) := by
      have : to = (to - nI 1) + nI 1 := by rw [Int32.sub_add_cancel]
      rw [this, e, nI_add]
    rw [e2]
    exact ⟨(nI_leI (by decide) (by omega)).mpr (by omega), (nI_leI (by omega) (by decide)).mpr (by omega)⟩
  · intro h
    have h0 : nI 0 ≤ to ∧ to ≤ nI 50 := ⟨Int32.le_trans (by decide) h.1, h.2⟩
    obtain ⟨k, hk, e⟩ := q_ofL (n := 50) (by decide) h0
    subst e
    have h1 := (nI_leI (by decide) (by omega)).mp h.1
    rw [pk_sub h1]
    exact ⟨(nI_leI (by decide) (by omega)).mpr (by omega), (nI_leI (by omega) (by decide)).mpr (by omega)⟩
set_option maxHeartbeats 400000 in
set_option maxRecDepth 100000 in
theorem c_md_open {l : Launch} {G : q_G} (htr : l.stackTraces = false) {h : q_H} {N : Nat} {fa : Int32} {ld : Option Nat} {ep : Nat} {tm : Int32} {L : mL} {S : mS} {C : mC} {W : mW} {T : mT} {s i to : Int32} {n : Nat} (hn : n ≤ 72) (hO : mOK n ((fa, ld, ep, tm), L, S, C, W, T)) : q_Met l G m_md_open 7 165 0 0 [.ref (42), .int (s), .int (i), .int (to)] (md_put h ((fa, ld, ep, tm), L, S, C, W, T)) N (q_To (some (.int (m_open s i to ((fa, ld, ep, tm), L, S, C, W, T)).1)) (md_put h (m_open s i to ((fa, ld, ep, tm), L, S, C, W, T)).2) N) := by
  obtain ⟨r0, hr0⟩ : ∃ r, r = m_open s i to ((fa, ld, ep, tm), L, S, C, W, T) := ⟨_, rfl⟩
  rw [← hr0]
  refine q_Met.mk htr (by decide +kernel) rfl (List.forall_mem_cons.mpr ⟨rfl, List.forall_mem_cons.mpr ⟨rfl, List.forall_mem_cons.mpr ⟨rfl, List.forall_mem_cons.mpr ⟨rfl, fun _ h => nomatch h⟩⟩⟩⟩) (Nat.le_of_ble_eq_true rfl) ?_
  refine e_aload_n (pc := 0) d_md_open_0 rfl ?_
  refine e_iconst (pc := 1) d_md_open_1 (v := (nI (0))) rfl ?_
  refine e_putE (pc := 2) d_md_open_2 (fs2 := [.int (nI (0)), .ref (43), .ref (44), .ref (45), .ref (46), .ref (47), .ref (48), .ref (49), .ref (50), .ref (51), .int (ldI ld), .int (nI (ep)), .int (tm), .ref (52), .ref (53), .ref (54), .ref (55), .ref (56), .ref (57), .ref (58), .ref (59), .ref (60), .ref (61), .ref (62), .ref (63), .ref (64), .ref (65)]) fl_md_84 md_g42 (Nat.le_of_ble_eq_true rfl) (fun _ => rfl) (fun _ => rfl) rfl ?_
  rw [md_u42 (ld := ld)]
  show q_Ev l G m_md_open 7 165 0 0 5 [some (.ref (42)), some (.int (s)), some (.int (i)), some (.int (to))] [] (md_put h (((nI (0)), ld, (ep), (tm)), ((L.1), (L.2.1), (L.2.2.1), (L.2.2.2)), ((S.1), (S.2.1), (S.2.2.1), (S.2.2.2.1), (S.2.2.2.2)), ((C.1), (C.2.1), (C.2.2.1), (C.2.2.2.1), (C.2.2.2.2)), ((W.1), (W.2.1), (W.2.2.1), (W.2.2.2)), ((T.1), (T.2.1), (T.2.2.1), (T.2.2.2.1), (T.2.2.2.2)))) N _
  refine e_aload_n (pc := 5) d_md_open_5 rfl ?_
  refine e_iload_n (pc := 6) d_md_open_6 rfl ?_
  refine e_iconst (pc := 7) d_md_open_7 (v := (nI (4))) rfl ?_
  refine e_callV (As := [.int (s), .int (nI (4))]) (st := []) (cc2 := 0) (ss2 := 0) (pc := 8) d_md_open_8 rfl cv_md_145 md_g42 rfl (c_md_out htr) rfl (by decide) (by decide) (by omega) (by omega) (Nat.le_of_ble_eq_true rfl) (fun _ _ _ hq => nomatch hq.1) (fun r h2 N2 hq => ?_)
  obtain ⟨hr, e1, e2⟩ := hq
  cases hr
  rw [e1, e2]
  clear e1 e2
  show q_Ev l G m_md_open 7 165 0 0 11 [some (.ref (42)), some (.int (s)), some (.int (i)), some (.int (to))] [.int (bI (decide (s < 0 ∨ ¬ s < nI 4)))] (md_put h (((nI (0)), ld, (ep), (tm)), ((L.1), (L.2.1), (L.2.2.1), (L.2.2.2)), ((S.1), (S.2.1), (S.2.2.1), (S.2.2.2.1), (S.2.2.2.2)), ((C.1), (C.2.1), (C.2.2.1), (C.2.2.2.1), (C.2.2.2.2)), ((W.1), (W.2.1), (W.2.2.1), (W.2.2.2)), ((T.1), (T.2.1), (T.2.2.1), (T.2.2.2.1), (T.2.2.2.2)))) N _
  refine e_ifB_ne (pc := 11) (tgt := 35) d_md_open_11 (by decide) (fun co => ?_) (fun co => ?_)
  · have hs := out_t (n := 3) (by decide) co
    refine e_aload_n (pc := 35) d_md_open_35 rfl ?_
    refine e_iconst (pc := 36) d_md_open_36 (v := (nI (1))) rfl ?_
    refine e_callV (As := [.int (nI (1))]) (st := []) (cc2 := 0) (ss2 := 0) (pc := 37) d_md_open_37 rfl cv_md_149 md_g42 rfl (c_md_fail htr) rfl (by decide) (by decide) (by omega) (by omega) (Nat.le_of_ble_eq_true rfl) (fun _ _ _ hq => nomatch hq.1) (fun r h2 N2 hq => ?_)
    obtain ⟨hr, e1, e2⟩ := hq
    cases hr
    rw [e1, e2]
    clear e1 e2
    show q_Ev l G m_md_open 7 165 0 0 40 [some (.ref (42)), some (.int (s)), some (.int (i)), some (.int (to))] [.int (nI (0))] _ N _
    exact e_iret (pc := 40) d_md_open_40 rfl (by rw [hr0]; unfold m_open; rw [if_neg (fun z => hs z.1)]; exact ⟨rfl, rfl, rfl⟩)
  · have hs := out_f (n := 3) (by decide) co
    refine e_aload_n (pc := 14) d_md_open_14 rfl ?_
    refine e_iload_n (pc := 15) d_md_open_15 rfl ?_
    refine e_iconst (pc := 16) d_md_open_16 (v := (nI (3))) rfl ?_
    refine e_callV (As := [.int (i), .int (nI (3))]) (st := []) (cc2 := 0) (ss2 := 0) (pc := 17) d_md_open_17 rfl cv_md_145 md_g42 rfl (c_md_out htr) rfl (by decide) (by decide) (by omega) (by omega) (Nat.le_of_ble_eq_true rfl) (fun _ _ _ hq => nomatch hq.1) (fun r h2 N2 hq => ?_)
    obtain ⟨hr, e1, e2⟩ := hq
    cases hr
    rw [e1, e2]
    clear e1 e2
    show q_Ev l G m_md_open 7 165 0 0 20 [some (.ref (42)), some (.int (s)), some (.int (i)), some (.int (to))] [.int (bI (decide (i < 0 ∨ ¬ i < nI 3)))] (md_put h (((nI (0)), ld, (ep), (tm)), ((L.1), (L.2.1), (L.2.2.1), (L.2.2.2)), ((S.1), (S.2.1), (S.2.2.1), (S.2.2.2.1), (S.2.2.2.2)), ((C.1), (C.2.1), (C.2.2.1), (C.2.2.2.1), (C.2.2.2.2)), ((W.1), (W.2.1), (W.2.2.1), (W.2.2.2)), ((T.1), (T.2.1), (T.2.2.1), (T.2.2.2.1), (T.2.2.2.2)))) N _
    refine e_ifB_ne (pc := 20) (tgt := 35) d_md_open_20 (by decide) (fun co => ?_) (fun co => ?_)
    · have hi := out_t (n := 2) (by decide) co
      refine e_aload_n (pc := 35) d_md_open_35 rfl ?_
      refine e_iconst (pc := 36) d_md_open_36 (v := (nI (1))) rfl ?_
      refine e_callV (As := [.int (nI (1))]) (st := []) (cc2 := 0) (ss2 := 0) (pc := 37) d_md_open_37 rfl cv_md_149 md_g42 rfl (c_md_fail htr) rfl (by decide) (by decide) (by omega) (by omega) (Nat.le_of_ble_eq_true rfl) (fun _ _ _ hq => nomatch hq.1) (fun r h2 N2 hq => ?_)
      obtain ⟨hr, e1, e2⟩ := hq
      cases hr
      rw [e1, e2]
      clear e1 e2
      show q_Ev l G m_md_open 7 165 0 0 40 [some (.ref (42)), some (.int (s)), some (.int (i)), some (.int (to))] [.int (nI (0))] _ N _
      exact e_iret (pc := 40) d_md_open_40 rfl (by rw [hr0]; unfold m_open; rw [if_neg (fun z => hi z.2.1)]; exact ⟨rfl, rfl, rfl⟩)
    · have hi := out_f (n := 2) (by decide) co
      refine e_aload_n (pc := 23) d_md_open_23 rfl ?_
      refine e_iload_n (pc := 24) d_md_open_24 rfl ?_
      refine e_iconst (pc := 25) d_md_open_25 (v := (nI (1))) rfl ?_
      refine e_isub (pc := 26) d_md_open_26  ?_
      refine e_bipush (pc := 27) d_md_open_27 (v := (nI (50))) rfl ?_
      refine e_callV (As := [.int ((to) - (nI (1))), .int (nI (50))]) (st := []) (cc2 := 0) (ss2 := 0) (pc := 29) d_md_open_29 rfl cv_md_145 md_g42 rfl (c_md_out htr) rfl (by decide) (by decide) (by omega) (by omega) (Nat.le_of_ble_eq_true rfl) (fun _ _ _ hq => nomatch hq.1) (fun r h2 N2 hq => ?_)
      obtain ⟨hr, e1, e2⟩ := hq
      cases hr
      rw [e1, e2]
      clear e1 e2
      show q_Ev l G m_md_open 7 165 0 0 32 [some (.ref (42)), some (.int (s)), some (.int (i)), some (.int (to))] [.int (bI (decide ((to - nI (1)) < 0 ∨ ¬ (to - nI (1)) < nI 50)))] (md_put h (((nI (0)), ld, (ep), (tm)), ((L.1), (L.2.1), (L.2.2.1), (L.2.2.2)), ((S.1), (S.2.1), (S.2.2.1), (S.2.2.2.1), (S.2.2.2.2)), ((C.1), (C.2.1), (C.2.2.1), (C.2.2.2.1), (C.2.2.2.2)), ((W.1), (W.2.1), (W.2.2.1), (W.2.2.2)), ((T.1), (T.2.1), (T.2.2.1), (T.2.2.2.1), (T.2.2.2.2)))) N _
      refine e_ifB_eq (pc := 32) (tgt := 41) d_md_open_32 (by decide) (fun co => ?_) (fun co => ?_)
      · have ht := out_f (n := 49) (by decide) co
        have ht2 := to_rg.mp ht
        have hs1 := hs
        have hi1 := hi
        obtain ⟨j, hj, ej⟩ := q_ofL (n := 3) (by decide) hs
        subst ej
        obtain ⟨k, hk, ek⟩ := q_ofL (n := 2) (by decide) hi
        subst ek
        refine e_aload_n (pc := 41) d_md_open_41 rfl ?_
        refine e_get (pc := 42) d_md_open_42 fl_md_42 md_g42 rfl ?_
        refine e_iload_n (pc := 45) d_md_open_45 rfl ?_
        refine e_zaldN (pc := 46) d_md_open_46 (f := (C.1)) md_g52 (by omega) (by decide) ?_
        refine e_ifB_ne (pc := 47) (tgt := 74) d_md_open_47 (by decide) (fun c1 => ?_) (fun c1 => ?_)
        · refine e_aload_n (pc := 74) d_md_open_74 rfl ?_
          refine e_iconst (pc := 75) d_md_open_75 (v := (nI (2))) rfl ?_
          refine e_callV (As := [.int (nI (2))]) (st := []) (cc2 := 0) (ss2 := 0) (pc := 76) d_md_open_76 rfl cv_md_149 md_g42 rfl (c_md_fail htr) rfl (by decide) (by decide) (by omega) (by omega) (Nat.le_of_ble_eq_true rfl) (fun _ _ _ hq => nomatch hq.1) (fun r h2 N2 hq => ?_)
          obtain ⟨hr, e1, e2⟩ := hq
          cases hr
          rw [e1, e2]
          clear e1 e2
          show q_Ev l G m_md_open 7 165 0 0 79 [some (.ref (42)), some (.int (nI (j))), some (.int (nI (k))), some (.int (to))] [.int (nI (0))] _ N _
          exact e_iret (pc := 79) d_md_open_79 rfl (by rw [hr0]; unfold m_open; rw [if_pos ⟨hs1, hi1, ht2⟩, nT_n (by omega), nT_n (by omega), if_neg (fun z => by rw [z.1] at c1; exact nomatch c1)]; exact ⟨rfl, rfl, rfl⟩)
        · refine e_aload_n (pc := 50) d_md_open_50 rfl ?_
          refine e_get (pc := 51) d_md_open_51 fl_md_45 md_g42 rfl ?_
          refine e_iload_n (pc := 54) d_md_open_54 rfl ?_
          refine e_zaldN (pc := 55) d_md_open_55 (f := (C.2.1)) md_g53 (by omega) (by decide) ?_
          refine e_ifB_ne (pc := 56) (tgt := 74) d_md_open_56 (by decide) (fun c2 => ?_) (fun c2 => ?_)
          · refine e_aload_n (pc := 74) d_md_open_74 rfl ?_
            refine e_iconst (pc := 75) d_md_open_75 (v := (nI (2))) rfl ?_
            refine e_callV (As := [.int (nI (2))]) (st := []) (cc2 := 0) (ss2 := 0) (pc := 76) d_md_open_76 rfl cv_md_149 md_g42 rfl (c_md_fail htr) rfl (by decide) (by decide) (by omega) (by omega) (Nat.le_of_ble_eq_true rfl) (fun _ _ _ hq => nomatch hq.1) (fun r h2 N2 hq => ?_)
            obtain ⟨hr, e1, e2⟩ := hq
            cases hr
            rw [e1, e2]
            clear e1 e2
            show q_Ev l G m_md_open 7 165 0 0 79 [some (.ref (42)), some (.int (nI (j))), some (.int (nI (k))), some (.int (to))] [.int (nI (0))] _ N _
            exact e_iret (pc := 79) d_md_open_79 rfl (by rw [hr0]; unfold m_open; rw [if_pos ⟨hs1, hi1, ht2⟩, nT_n (by omega), nT_n (by omega), if_neg (fun z => by rw [z.2.1] at c2; exact nomatch c2)]; exact ⟨rfl, rfl, rfl⟩)
          · refine e_aload_n (pc := 59) d_md_open_59 rfl ?_
            refine e_iload_n (pc := 60) d_md_open_60 rfl ?_
            refine e_callV (As := [.int (nI (k))]) (st := []) (cc2 := 0) (ss2 := 0) (pc := 61) d_md_open_61 rfl cv_md_112 md_g42 rfl (c_md_linked (M := ((nI 0, ld, ep, tm), L, S, C, W, T)) htr hO.1 hk) rfl (by decide) (by decide) (by omega) (by omega) (Nat.le_of_ble_eq_true rfl) (fun _ _ _ hq => nomatch hq.1) (fun r h2 N2 hq => ?_)
            obtain ⟨hr, e1, e2⟩ := hq
            cases hr
            rw [e1, e2]
            clear e1 e2
            show q_Ev l G m_md_open 7 165 0 0 64 [some (.ref (42)), some (.int (nI (j))), some (.int (nI (k))), some (.int (to))] [.int (bI (m_lk ((fa, ld, ep, tm), L, S, C, W, T) k))] (md_put h (((nI (0)), ld, (ep), (tm)), ((L.1), (L.2.1), (L.2.2.1), (L.2.2.2)), ((S.1), (S.2.1), (S.2.2.1), (S.2.2.2.1), (S.2.2.2.2)), ((C.1), (C.2.1), (C.2.2.1), (C.2.2.2.1), (C.2.2.2.2)), ((W.1), (W.2.1), (W.2.2.1), (W.2.2.2)), ((T.1), (T.2.1), (T.2.2.1), (T.2.2.2.1), (T.2.2.2.2)))) N _
            refine e_ifB_eq (pc := 64) (tgt := 74) d_md_open_64 (by decide) (fun c3 => ?_) (fun c3 => ?_)
            · refine e_aload_n (pc := 74) d_md_open_74 rfl ?_
              refine e_iconst (pc := 75) d_md_open_75 (v := (nI (2))) rfl ?_
              refine e_callV (As := [.int (nI (2))]) (st := []) (cc2 := 0) (ss2 := 0) (pc := 76) d_md_open_76 rfl cv_md_149 md_g42 rfl (c_md_fail htr) rfl (by decide) (by decide) (by omega) (by omega) (Nat.le_of_ble_eq_true rfl) (fun _ _ _ hq => nomatch hq.1) (fun r h2 N2 hq => ?_)
              obtain ⟨hr, e1, e2⟩ := hq
              cases hr
              rw [e1, e2]
              clear e1 e2
              show q_Ev l G m_md_open 7 165 0 0 79 [some (.ref (42)), some (.int (nI (j))), some (.int (nI (k))), some (.int (to))] [.int (nI (0))] _ N _
              exact e_iret (pc := 79) d_md_open_79 rfl (by rw [hr0]; unfold m_open; rw [if_pos ⟨hs1, hi1, ht2⟩, nT_n (by omega), nT_n (by omega), if_neg (fun z => by rw [z.2.2.1] at c3; exact nomatch c3)]; exact ⟨rfl, rfl, rfl⟩)
            · refine e_aload_n (pc := 67) d_md_open_67 rfl ?_
              refine e_callV (As := []) (st := []) (cc2 := 0) (ss2 := 0) (pc := 68) d_md_open_68 rfl cv_md_118 md_g42 rfl (c_md_quorum (M := ((nI 0, ld, ep, tm), L, S, C, W, T)) htr hO.1) rfl (by decide) (by decide) (by omega) (by omega) (Nat.le_of_ble_eq_true rfl) (fun _ _ _ hq => nomatch hq.1) (fun r h2 N2 hq => ?_)
              obtain ⟨hr, e1, e2⟩ := hq
              cases hr
              rw [e1, e2]
              clear e1 e2
              show q_Ev l G m_md_open 7 165 0 0 71 [some (.ref (42)), some (.int (nI (j))), some (.int (nI (k))), some (.int (to))] [.int (bI (m_qr ((fa, ld, ep, tm), L, S, C, W, T)))] (md_put h (((nI (0)), ld, (ep), (tm)), ((L.1), (L.2.1), (L.2.2.1), (L.2.2.2)), ((S.1), (S.2.1), (S.2.2.1), (S.2.2.2.1), (S.2.2.2.2)), ((C.1), (C.2.1), (C.2.2.1), (C.2.2.2.1), (C.2.2.2.2)), ((W.1), (W.2.1), (W.2.2.1), (W.2.2.2)), ((T.1), (T.2.1), (T.2.2.1), (T.2.2.2.1), (T.2.2.2.2)))) N _
              refine e_ifB_ne (pc := 71) (tgt := 80) d_md_open_71 (by decide) (fun c4 => ?_) (fun c4 => ?_)
              · refine e_aload_n (pc := 80) d_md_open_80 rfl ?_
                refine e_get (pc := 81) d_md_open_81 fl_md_42 md_g42 rfl ?_
                refine e_iload_n (pc := 84) d_md_open_84 rfl ?_
                refine e_iconst (pc := 85) d_md_open_85 (v := (bI (true))) rfl ?_
                refine e_zastN (pc := 86) d_md_open_86 (f := (C.1)) md_g52 (by omega) (by decide) ?_
                rw [md_u52]
                show q_Ev l G m_md_open 7 165 0 0 87 [some (.ref (42)), some (.int (nI (j))), some (.int (nI (k))), some (.int (to))] [] (md_put h (((nI (0)), ld, (ep), (tm)), ((L.1), (L.2.1), (L.2.2.1), (L.2.2.2)), ((S.1), (S.2.1), (S.2.2.1), (S.2.2.2.1), (S.2.2.2.2)), ((va_up ((C.1)) (j) (true)), (C.2.1), (C.2.2.1), (C.2.2.2.1), (C.2.2.2.2)), ((W.1), (W.2.1), (W.2.2.1), (W.2.2.2)), ((T.1), (T.2.1), (T.2.2.1), (T.2.2.2.1), (T.2.2.2.2)))) N _
                refine e_aload_n (pc := 87) d_md_open_87 rfl ?_
                refine e_get (pc := 88) d_md_open_88 fl_md_48 md_g42 rfl ?_
                refine e_iload_n (pc := 91) d_md_open_91 rfl ?_
                refine e_iload_n (pc := 92) d_md_open_92 rfl ?_
                refine e_nastN (pc := 93) d_md_open_93 (f := (C.2.2.1)) md_g54 (by omega) (by decide) ?_
                rw [md_u54]
                show q_Ev l G m_md_open 7 165 0 0 94 [some (.ref (42)), some (.int (nI (j))), some (.int (nI (k))), some (.int (to))] [] (md_put h (((nI (0)), ld, (ep), (tm)), ((L.1), (L.2.1), (L.2.2.1), (L.2.2.2)), ((S.1), (S.2.1), (S.2.2.1), (S.2.2.2.1), (S.2.2.2.2)), ((va_up ((C.1)) (j) (true)), (C.2.1), (va_up ((C.2.2.1)) (j) (k)), (C.2.2.2.1), (C.2.2.2.2)), ((W.1), (W.2.1), (W.2.2.1), (W.2.2.2)), ((T.1), (T.2.1), (T.2.2.1), (T.2.2.2.1), (T.2.2.2.2)))) N _
                refine e_aload_n (pc := 94) d_md_open_94 rfl ?_
                refine e_get (pc := 95) d_md_open_95 fl_md_51 md_g42 rfl ?_
                refine e_iload_n (pc := 98) d_md_open_98 rfl ?_
                refine e_iload_n (pc := 99) d_md_open_99 rfl ?_
                refine e_iastN (pc := 100) d_md_open_100 md_g55 (by omega) (by decide) ?_
                rw [md_u55]
                show q_Ev l G m_md_open 7 165 0 0 101 [some (.ref (42)), some (.int (nI (j))), some (.int (nI (k))), some (.int (to))] [] (md_put h (((nI (0)), ld, (ep), (tm)), ((L.1), (L.2.1), (L.2.2.1), (L.2.2.2)), ((S.1), (S.2.1), (S.2.2.1), (S.2.2.2.1), (S.2.2.2.2)), ((va_up ((C.1)) (j) (true)), (C.2.1), (va_up ((C.2.2.1)) (j) (k)), (upd ((C.2.2.2.1)) (j) ((to))), (C.2.2.2.2)), ((W.1), (W.2.1), (W.2.2.1), (W.2.2.2)), ((T.1), (T.2.1), (T.2.2.1), (T.2.2.2.1), (T.2.2.2.2)))) N _
                refine e_aload_n (pc := 101) d_md_open_101 rfl ?_
                refine e_get (pc := 102) d_md_open_102 fl_md_54 md_g42 rfl ?_
                refine e_iload_n (pc := 105) d_md_open_105 rfl ?_
                refine e_aload_n (pc := 106) d_md_open_106 rfl ?_
                refine e_get (pc := 107) d_md_open_107 fl_md_152 md_g42 rfl ?_
                refine e_iastN (pc := 110) d_md_open_110 md_g56 (by omega) (by decide) ?_
                rw [md_u56]
                show q_Ev l G m_md_open 7 165 0 0 111 [some (.ref (42)), some (.int (nI (j))), some (.int (nI (k))), some (.int (to))] [] (md_put h (((nI (0)), ld, (ep), (tm)), ((L.1), (L.2.1), (L.2.2.1), (L.2.2.2)), ((S.1), (S.2.1), (S.2.2.1), (S.2.2.2.1), (S.2.2.2.2)), ((va_up ((C.1)) (j) (true)), (C.2.1), (va_up ((C.2.2.1)) (j) (k)), (upd ((C.2.2.2.1)) (j) ((to))), (upd ((C.2.2.2.2)) (j) (((tm))))), ((W.1), (W.2.1), (W.2.2.1), (W.2.2.2)), ((T.1), (T.2.1), (T.2.2.1), (T.2.2.2.1), (T.2.2.2.2)))) N _
                refine e_aload_n (pc := 111) d_md_open_111 rfl ?_
                refine e_aload_n (pc := 112) d_md_open_112 rfl ?_
                refine e_get (pc := 113) d_md_open_113 fl_md_152 md_g42 rfl ?_
                refine e_iload_n (pc := 116) d_md_open_116 rfl ?_
                refine e_iadd (pc := 117) d_md_open_117  ?_
                refine e_callV (As := [.int (((tm)) + (to))]) (st := []) (cc2 := 0) (ss2 := 0) (pc := 118) d_md_open_118 rfl cv_md_155 md_g42 rfl (c_md_end htr (show _ ≤ 76 by omega) ⟨hO.1, mCo_up hO.2.1 hk, hO.2.2⟩) rfl (by decide) (by decide) (by omega) (by omega) (Nat.le_of_ble_eq_true rfl) (fun _ _ _ hq => nomatch hq.1) (fun r h2 N2 hq => ?_)
                obtain ⟨hr, e1, e2⟩ := hq
                cases hr
                rw [e1, e2]
                clear e1 e2
                show q_Ev l G m_md_open 7 165 0 0 121 [some (.ref (42)), some (.int (nI (j))), some (.int (nI (k))), some (.int (to))] [.int (tm + to)] _ N _
                exact e_iret (pc := 121) d_md_open_121 rfl (by rw [hr0]; unfold m_open; rw [if_pos ⟨hs1, hi1, ht2⟩, nT_n (by omega), nT_n (by omega), if_pos ⟨c1, c2, c3, c4⟩]; exact ⟨rfl, rfl, rfl⟩)
              · refine e_aload_n (pc := 74) d_md_open_74 rfl ?_
                refine e_iconst (pc := 75) d_md_open_75 (v := (nI (2))) rfl ?_
                refine e_callV (As := [.int (nI (2))]) (st := []) (cc2 := 0) (ss2 := 0) (pc := 76) d_md_open_76 rfl cv_md_149 md_g42 rfl (c_md_fail htr) rfl (by decide) (by decide) (by omega) (by omega) (Nat.le_of_ble_eq_true rfl) (fun _ _ _ hq => nomatch hq.1) (fun r h2 N2 hq => ?_)
                obtain ⟨hr, e1, e2⟩ := hq
                cases hr
                rw [e1, e2]
                clear e1 e2
                show q_Ev l G m_md_open 7 165 0 0 79 [some (.ref (42)), some (.int (nI (j))), some (.int (nI (k))), some (.int (to))] [.int (nI (0))] _ N _
                exact e_iret (pc := 79) d_md_open_79 rfl (by rw [hr0]; unfold m_open; rw [if_pos ⟨hs1, hi1, ht2⟩, nT_n (by omega), nT_n (by omega), if_neg (fun z => by rw [z.2.2.2] at c4; exact nomatch c4)]; exact ⟨rfl, rfl, rfl⟩)
      · have ht := out_t (n := 49) (by decide) co
        refine e_aload_n (pc := 35) d_md_open_35 rfl ?_
        refine e_iconst (pc := 36) d_md_open_36 (v := (nI (1))) rfl ?_
        refine e_callV (As := [.int (nI (1))]) (st := []) (cc2 := 0) (ss2 := 0) (pc := 37) d_md_open_37 rfl cv_md_149 md_g42 rfl (c_md_fail htr) rfl (by decide) (by decide) (by omega) (by omega) (Nat.le_of_ble_eq_true rfl) (fun _ _ _ hq => nomatch hq.1) (fun r h2 N2 hq => ?_)
        obtain ⟨hr, e1, e2⟩ := hq
        cases hr
        rw [e1, e2]
        clear e1 e2
        show q_Ev l G m_md_open 7 165 0 0 40 [some (.ref (42)), some (.int (s)), some (.int (i)), some (.int (to))] [.int (nI (0))] _ N _
        exact e_iret (pc := 40) d_md_open_40 rfl (by rw [hr0]; unfold m_open; rw [if_neg (fun z => ht (to_rg.mpr z.2.2))]; exact ⟨rfl, rfl, rfl⟩)
def m_ping (s : Int32) (M : mR) : Int32 × mR := if (nI 0 ≤ s ∧ s ≤ nI 3) then if m_rc M (nT s) = true ∧ m_qr M = true then m_E (nI (M.2.2.2.2.1.2.2.2 (nT s))) (M.1, M.2.1, M.2.2.1, (M.2.2.2.1.1, M.2.2.2.1.2.1, M.2.2.2.1.2.2.1, M.2.2.2.1.2.2.2.1, upd M.2.2.2.1.2.2.2.2 (nT s) M.1.2.2.2), M.2.2.2.2) else m_F 2 M else m_F 1 M
set_option maxHeartbeats 400000 in
set_option maxRecDepth 100000 in
theorem c_md_ping {l : Launch} {G : q_G} (htr : l.stackTraces = false) {h : q_H} {N : Nat} {fa : Int32} {ld : Option Nat} {ep : Nat} {tm : Int32} {L : mL} {S : mS} {C : mC} {W : mW} {T : mT} {s : Int32} {n : Nat} (hn : n ≤ 72) (hO : mOK n ((fa, ld, ep, tm), L, S, C, W, T)) : q_Met l G m_md_ping 7 165 0 0 [.ref (42), .int (s)] (md_put h ((fa, ld, ep, tm), L, S, C, W, T)) N (q_To (some (.int (m_ping s ((fa, ld, ep, tm), L, S, C, W, T)).1)) (md_put h (m_ping s ((fa, ld, ep, tm), L, S, C, W, T)).2) N) := by
  obtain ⟨r0, hr0⟩ : ∃ r, r = m_ping s ((fa, ld, ep, tm), L, S, C, W, T) := ⟨_, rfl⟩
  rw [← hr0]
  refine q_Met.mk htr (by decide +kernel) rfl (List.forall_mem_cons.mpr ⟨rfl, List.forall_mem_cons.mpr ⟨rfl, fun _ h => nomatch h⟩⟩) (Nat.le_of_ble_eq_true rfl) ?_
  refine e_aload_n (pc := 0) d_md_ping_0 rfl ?_
  refine e_iconst (pc := 1) d_md_ping_1 (v := (nI (0))) rfl ?_
  refine e_putE (pc := 2) d_md_ping_2 (fs2 := [.int (nI (0)), .ref (43), .ref (44), .ref (45), .ref (46), .ref (47), .ref (48), .ref (49), .ref (50), .ref (51), .int (ldI ld), .int (nI (ep)), .int (tm), .ref (52), .ref (53), .ref (54), .ref (55), .ref (56), .ref (57), .ref (58), .ref (59), .ref (60), .ref (61), .ref (62), .ref (63), .ref (64), .ref (65)]) fl_md_84 md_g42 (Nat.le_of_ble_eq_true rfl) (fun _ => rfl) (fun _ => rfl) rfl ?_
  rw [md_u42 (ld := ld)]
  show q_Ev l G m_md_ping 7 165 0 0 5 [some (.ref (42)), some (.int (s))] [] (md_put h (((nI (0)), ld, (ep), (tm)), ((L.1), (L.2.1), (L.2.2.1), (L.2.2.2)), ((S.1), (S.2.1), (S.2.2.1), (S.2.2.2.1), (S.2.2.2.2)), ((C.1), (C.2.1), (C.2.2.1), (C.2.2.2.1), (C.2.2.2.2)), ((W.1), (W.2.1), (W.2.2.1), (W.2.2.2)), ((T.1), (T.2.1), (T.2.2.1), (T.2.2.2.1), (T.2.2.2.2)))) N _
  refine e_aload_n (pc := 5) d_md_ping_5 rfl ?_
  refine e_iload_n (pc := 6) d_md_ping_6 rfl ?_
  refine e_iconst (pc := 7) d_md_ping_7 (v := (nI (4))) rfl ?_
  refine e_callV (As := [.int (s), .int (nI (4))]) (st := []) (cc2 := 0) (ss2 := 0) (pc := 8) d_md_ping_8 rfl cv_md_145 md_g42 rfl (c_md_out htr) rfl (by decide) (by decide) (by omega) (by omega) (Nat.le_of_ble_eq_true rfl) (fun _ _ _ hq => nomatch hq.1) (fun r h2 N2 hq => ?_)
  obtain ⟨hr, e1, e2⟩ := hq
  cases hr
  rw [e1, e2]
  clear e1 e2
  show q_Ev l G m_md_ping 7 165 0 0 11 [some (.ref (42)), some (.int (s))] [.int (bI (decide (s < 0 ∨ ¬ s < nI 4)))] (md_put h (((nI (0)), ld, (ep), (tm)), ((L.1), (L.2.1), (L.2.2.1), (L.2.2.2)), ((S.1), (S.2.1), (S.2.2.1), (S.2.2.2.1), (S.2.2.2.2)), ((C.1), (C.2.1), (C.2.2.1), (C.2.2.2.1), (C.2.2.2.2)), ((W.1), (W.2.1), (W.2.2.1), (W.2.2.2)), ((T.1), (T.2.1), (T.2.2.1), (T.2.2.2.1), (T.2.2.2.2)))) N _
  refine e_ifB_eq (pc := 11) (tgt := 20) d_md_ping_11 (by decide) (fun co => ?_) (fun co => ?_)
  · have hs := out_f (n := 3) (by decide) co
    have hs1 := hs
    obtain ⟨j, hj, ej⟩ := q_ofL (n := 3) (by decide) hs
    subst ej
    refine e_aload_n (pc := 20) d_md_ping_20 rfl ?_
    refine e_iload_n (pc := 21) d_md_ping_21 rfl ?_
    refine e_callV (As := [.int (nI (j))]) (st := []) (cc2 := 0) (ss2 := 0) (pc := 22) d_md_ping_22 rfl cv_md_158 md_g42 rfl (c_md_reaches (M := ((nI 0, ld, ep, tm), L, S, C, W, T)) htr hO.1 hj (hO.2.1 j hj)) rfl (by decide) (by decide) (by omega) (by omega) (Nat.le_of_ble_eq_true rfl) (fun _ _ _ hq => nomatch hq.1) (fun r h2 N2 hq => ?_)
    obtain ⟨hr, e1, e2⟩ := hq
    cases hr
    rw [e1, e2]
    clear e1 e2
    show q_Ev l G m_md_ping 7 165 0 0 25 [some (.ref (42)), some (.int (nI (j)))] [.int (bI (m_rc ((fa, ld, ep, tm), L, S, C, W, T) j))] (md_put h (((nI (0)), ld, (ep), (tm)), ((L.1), (L.2.1), (L.2.2.1), (L.2.2.2)), ((S.1), (S.2.1), (S.2.2.1), (S.2.2.2.1), (S.2.2.2.2)), ((C.1), (C.2.1), (C.2.2.1), (C.2.2.2.1), (C.2.2.2.2)), ((W.1), (W.2.1), (W.2.2.1), (W.2.2.2)), ((T.1), (T.2.1), (T.2.2.1), (T.2.2.2.1), (T.2.2.2.2)))) N _
    refine e_ifB_eq (pc := 25) (tgt := 35) d_md_ping_25 (by decide) (fun c1 => ?_) (fun c1 => ?_)
    · refine e_aload_n (pc := 35) d_md_ping_35 rfl ?_
      refine e_iconst (pc := 36) d_md_ping_36 (v := (nI (2))) rfl ?_
      refine e_callV (As := [.int (nI (2))]) (st := []) (cc2 := 0) (ss2 := 0) (pc := 37) d_md_ping_37 rfl cv_md_149 md_g42 rfl (c_md_fail htr) rfl (by decide) (by decide) (by omega) (by omega) (Nat.le_of_ble_eq_true rfl) (fun _ _ _ hq => nomatch hq.1) (fun r h2 N2 hq => ?_)
      obtain ⟨hr, e1, e2⟩ := hq
      cases hr
      rw [e1, e2]
      clear e1 e2
      show q_Ev l G m_md_ping 7 165 0 0 40 [some (.ref (42)), some (.int (nI (j)))] [.int (nI (0))] _ N _
      exact e_iret (pc := 40) d_md_ping_40 rfl (by rw [hr0]; unfold m_ping; rw [if_pos hs1, nT_n (by omega), if_neg (fun z => by rw [z.1] at c1; exact nomatch c1)]; exact ⟨rfl, rfl, rfl⟩)
    · refine e_aload_n (pc := 28) d_md_ping_28 rfl ?_
      refine e_callV (As := []) (st := []) (cc2 := 0) (ss2 := 0) (pc := 29) d_md_ping_29 rfl cv_md_118 md_g42 rfl (c_md_quorum (M := ((nI 0, ld, ep, tm), L, S, C, W, T)) htr hO.1) rfl (by decide) (by decide) (by omega) (by omega) (Nat.le_of_ble_eq_true rfl) (fun _ _ _ hq => nomatch hq.1) (fun r h2 N2 hq => ?_)
      obtain ⟨hr, e1, e2⟩ := hq
      cases hr
      rw [e1, e2]
      clear e1 e2
      show q_Ev l G m_md_ping 7 165 0 0 32 [some (.ref (42)), some (.int (nI (j)))] [.int (bI (m_qr ((fa, ld, ep, tm), L, S, C, W, T)))] (md_put h (((nI (0)), ld, (ep), (tm)), ((L.1), (L.2.1), (L.2.2.1), (L.2.2.2)), ((S.1), (S.2.1), (S.2.2.1), (S.2.2.2.1), (S.2.2.2.2)), ((C.1), (C.2.1), (C.2.2.1), (C.2.2.2.1), (C.2.2.2.2)), ((W.1), (W.2.1), (W.2.2.1), (W.2.2.2)), ((T.1), (T.2.1), (T.2.2.1), (T.2.2.2.1), (T.2.2.2.2)))) N _
      refine e_ifB_ne (pc := 32) (tgt := 41) d_md_ping_32 (by decide) (fun c4 => ?_) (fun c4 => ?_)
      · refine e_aload_n (pc := 41) d_md_ping_41 rfl ?_
        refine e_get (pc := 42) d_md_ping_42 fl_md_54 md_g42 rfl ?_
        refine e_iload_n (pc := 45) d_md_ping_45 rfl ?_
        refine e_aload_n (pc := 46) d_md_ping_46 rfl ?_
        refine e_get (pc := 47) d_md_ping_47 fl_md_152 md_g42 rfl ?_
        refine e_iastN (pc := 50) d_md_ping_50 md_g56 (by omega) (by decide) ?_
        rw [md_u56]
        show q_Ev l G m_md_ping 7 165 0 0 51 [some (.ref (42)), some (.int (nI (j)))] [] (md_put h (((nI (0)), ld, (ep), (tm)), ((L.1), (L.2.1), (L.2.2.1), (L.2.2.2)), ((S.1), (S.2.1), (S.2.2.1), (S.2.2.2.1), (S.2.2.2.2)), ((C.1), (C.2.1), (C.2.2.1), (C.2.2.2.1), (upd ((C.2.2.2.2)) (j) (((tm))))), ((W.1), (W.2.1), (W.2.2.1), (W.2.2.2)), ((T.1), (T.2.1), (T.2.2.1), (T.2.2.2.1), (T.2.2.2.2)))) N _
        refine e_aload_n (pc := 51) d_md_ping_51 rfl ?_
        refine e_aload_n (pc := 52) d_md_ping_52 rfl ?_
        refine e_get (pc := 53) d_md_ping_53 fl_md_66 md_g42 rfl ?_
        refine e_iload_n (pc := 56) d_md_ping_56 rfl ?_
        refine e_naldN (pc := 57) d_md_ping_57 (f := (W.2.2.2)) md_g60 (by omega) (by decide) ?_
        refine e_callV (As := [.int (nI (((W.2.2.2)) (j)))]) (st := []) (cc2 := 0) (ss2 := 0) (pc := 58) d_md_ping_58 rfl cv_md_155 md_g42 rfl (c_md_end htr (show _ ≤ 76 by omega) ⟨hO.1, hO.2.1, hO.2.2⟩) rfl (by decide) (by decide) (by omega) (by omega) (Nat.le_of_ble_eq_true rfl) (fun _ _ _ hq => nomatch hq.1) (fun r h2 N2 hq => ?_)
        obtain ⟨hr, e1, e2⟩ := hq
        cases hr
        rw [e1, e2]
        clear e1 e2
        show q_Ev l G m_md_ping 7 165 0 0 61 [some (.ref (42)), some (.int (nI (j)))] [.int (nI (W.2.2.2 j))] _ N _
        exact e_iret (pc := 61) d_md_ping_61 rfl (by rw [hr0]; unfold m_ping; rw [if_pos hs1, nT_n (by omega), if_pos ⟨c1, c4⟩]; exact ⟨rfl, rfl, rfl⟩)
      · refine e_aload_n (pc := 35) d_md_ping_35 rfl ?_
        refine e_iconst (pc := 36) d_md_ping_36 (v := (nI (2))) rfl ?_
        refine e_callV (As := [.int (nI (2))]) (st := []) (cc2 := 0) (ss2 := 0) (pc := 37) d_md_ping_37 rfl cv_md_149 md_g42 rfl (c_md_fail htr) rfl (by decide) (by decide) (by omega) (by omega) (Nat.le_of_ble_eq_true rfl) (fun _ _ _ hq => nomatch hq.1) (fun r h2 N2 hq => ?_)
        obtain ⟨hr, e1, e2⟩ := hq
        cases hr
        rw [e1, e2]
        clear e1 e2
        show q_Ev l G m_md_ping 7 165 0 0 40 [some (.ref (42)), some (.int (nI (j)))] [.int (nI (0))] _ N _
        exact e_iret (pc := 40) d_md_ping_40 rfl (by rw [hr0]; unfold m_ping; rw [if_pos hs1, nT_n (by omega), if_neg (fun z => by rw [z.2] at c4; exact nomatch c4)]; exact ⟨rfl, rfl, rfl⟩)
  · have hs := out_t (n := 3) (by decide) co
    refine e_aload_n (pc := 14) d_md_ping_14 rfl ?_
    refine e_iconst (pc := 15) d_md_ping_15 (v := (nI (1))) rfl ?_
    refine e_callV (As := [.int (nI (1))]) (st := []) (cc2 := 0) (ss2 := 0) (pc := 16) d_md_ping_16 rfl cv_md_149 md_g42 rfl (c_md_fail htr) rfl (by decide) (by decide) (by omega) (by omega) (Nat.le_of_ble_eq_true rfl) (fun _ _ _ hq => nomatch hq.1) (fun r h2 N2 hq => ?_)
    obtain ⟨hr, e1, e2⟩ := hq
    cases hr
    rw [e1, e2]
    clear e1 e2
    show q_Ev l G m_md_ping 7 165 0 0 19 [some (.ref (42)), some (.int (s))] [.int (nI (0))] _ N _
    exact e_iret (pc := 19) d_md_ping_19 rfl (by rw [hr0]; unfold m_ping; rw [if_neg hs]; exact ⟨rfl, rfl, rfl⟩)
def m_close (s : Int32) (M : mR) : Int32 × mR := if (nI 0 ≤ s ∧ s ≤ nI 3) then if m_rc M (nT s) = true ∧ m_qr M = true then m_E (nI (owT (pnM M).2.2.2.2.2 (nI (nT s)))) (m_fin (nT s) (pnM M)) else m_F 2 M else m_F 1 M
set_option maxHeartbeats 400000 in
set_option maxRecDepth 100000 in
theorem c_md_close {l : Launch} {G : q_G} (htr : l.stackTraces = false) {h : q_H} {N : Nat} {fa : Int32} {ld : Option Nat} {ep : Nat} {tm : Int32} {L : mL} {S : mS} {C : mC} {W : mW} {T : mT} {s : Int32} {n : Nat} (hn : n ≤ 72) (hO : mOK n ((fa, ld, ep, tm), L, S, C, W, T)) : q_Met l G m_md_close 7 165 0 0 [.ref (42), .int (s)] (md_put h ((fa, ld, ep, tm), L, S, C, W, T)) N (q_To (some (.int (m_close s ((fa, ld, ep, tm), L, S, C, W, T)).1)) (md_put h (m_close s ((fa, ld, ep, tm), L, S, C, W, T)).2) N) := by
  obtain ⟨r0, hr0⟩ : ∃ r, r = m_close s ((fa, ld, ep, tm), L, S, C, W, T) := ⟨_, rfl⟩
  rw [← hr0]
  refine q_Met.mk htr (by decide +kernel) rfl (List.forall_mem_cons.mpr ⟨rfl, List.forall_mem_cons.mpr ⟨rfl, fun _ h => nomatch h⟩⟩) (Nat.le_of_ble_eq_true rfl) ?_
  refine e_aload_n (pc := 0) d_md_close_0 rfl ?_
  refine e_iconst (pc := 1) d_md_close_1 (v := (nI (0))) rfl ?_
  refine e_putE (pc := 2) d_md_close_2 (fs2 := [.int (nI (0)), .ref (43), .ref (44), .ref (45), .ref (46), .ref (47), .ref (48), .ref (49), .ref (50), .ref (51), .int (ldI ld), .int (nI (ep)), .int (tm), .ref (52), .ref (53), .ref (54), .ref (55), .ref (56), .ref (57), .ref (58), .ref (59), .ref (60), .ref (61), .ref (62), .ref (63), .ref (64), .ref (65)]) fl_md_84 md_g42 (Nat.le_of_ble_eq_true rfl) (fun _ => rfl) (fun _ => rfl) rfl ?_
  rw [md_u42 (ld := ld)]
  show q_Ev l G m_md_close 7 165 0 0 5 [some (.ref (42)), some (.int (s)), none] [] (md_put h (((nI (0)), ld, (ep), (tm)), ((L.1), (L.2.1), (L.2.2.1), (L.2.2.2)), ((S.1), (S.2.1), (S.2.2.1), (S.2.2.2.1), (S.2.2.2.2)), ((C.1), (C.2.1), (C.2.2.1), (C.2.2.2.1), (C.2.2.2.2)), ((W.1), (W.2.1), (W.2.2.1), (W.2.2.2)), ((T.1), (T.2.1), (T.2.2.1), (T.2.2.2.1), (T.2.2.2.2)))) N _
  refine e_aload_n (pc := 5) d_md_close_5 rfl ?_
  refine e_iload_n (pc := 6) d_md_close_6 rfl ?_
  refine e_iconst (pc := 7) d_md_close_7 (v := (nI (4))) rfl ?_
  refine e_callV (As := [.int (s), .int (nI (4))]) (st := []) (cc2 := 0) (ss2 := 0) (pc := 8) d_md_close_8 rfl cv_md_145 md_g42 rfl (c_md_out htr) rfl (by decide) (by decide) (by omega) (by omega) (Nat.le_of_ble_eq_true rfl) (fun _ _ _ hq => nomatch hq.1) (fun r h2 N2 hq => ?_)
  obtain ⟨hr, e1, e2⟩ := hq
  cases hr
  rw [e1, e2]
  clear e1 e2
  show q_Ev l G m_md_close 7 165 0 0 11 [some (.ref (42)), some (.int (s)), none] [.int (bI (decide (s < 0 ∨ ¬ s < nI 4)))] (md_put h (((nI (0)), ld, (ep), (tm)), ((L.1), (L.2.1), (L.2.2.1), (L.2.2.2)), ((S.1), (S.2.1), (S.2.2.1), (S.2.2.2.1), (S.2.2.2.2)), ((C.1), (C.2.1), (C.2.2.1), (C.2.2.2.1), (C.2.2.2.2)), ((W.1), (W.2.1), (W.2.2.1), (W.2.2.2)), ((T.1), (T.2.1), (T.2.2.1), (T.2.2.2.1), (T.2.2.2.2)))) N _
  refine e_ifB_eq (pc := 11) (tgt := 20) d_md_close_11 (by decide) (fun co => ?_) (fun co => ?_)
  · have hs := out_f (n := 3) (by decide) co
    have hs1 := hs
    obtain ⟨j, hj, ej⟩ := q_ofL (n := 3) (by decide) hs
    subst ej
    refine e_aload_n (pc := 20) d_md_close_20 rfl ?_
    refine e_iload_n (pc := 21) d_md_close_21 rfl ?_
    refine e_callV (As := [.int (nI (j))]) (st := []) (cc2 := 0) (ss2 := 0) (pc := 22) d_md_close_22 rfl cv_md_158 md_g42 rfl (c_md_reaches (M := ((nI 0, ld, ep, tm), L, S, C, W, T)) htr hO.1 hj (hO.2.1 j hj)) rfl (by decide) (by decide) (by omega) (by omega) (Nat.le_of_ble_eq_true rfl) (fun _ _ _ hq => nomatch hq.1) (fun r h2 N2 hq => ?_)
    obtain ⟨hr, e1, e2⟩ := hq
    cases hr
    rw [e1, e2]
    clear e1 e2
    show q_Ev l G m_md_close 7 165 0 0 25 [some (.ref (42)), some (.int (nI (j))), none] [.int (bI (m_rc ((fa, ld, ep, tm), L, S, C, W, T) j))] (md_put h (((nI (0)), ld, (ep), (tm)), ((L.1), (L.2.1), (L.2.2.1), (L.2.2.2)), ((S.1), (S.2.1), (S.2.2.1), (S.2.2.2.1), (S.2.2.2.2)), ((C.1), (C.2.1), (C.2.2.1), (C.2.2.2.1), (C.2.2.2.2)), ((W.1), (W.2.1), (W.2.2.1), (W.2.2.2)), ((T.1), (T.2.1), (T.2.2.1), (T.2.2.2.1), (T.2.2.2.2)))) N _
    refine e_ifB_eq (pc := 25) (tgt := 35) d_md_close_25 (by decide) (fun c1 => ?_) (fun c1 => ?_)
    · refine e_aload_n (pc := 35) d_md_close_35 rfl ?_
      refine e_iconst (pc := 36) d_md_close_36 (v := (nI (2))) rfl ?_
      refine e_callV (As := [.int (nI (2))]) (st := []) (cc2 := 0) (ss2 := 0) (pc := 37) d_md_close_37 rfl cv_md_149 md_g42 rfl (c_md_fail htr) rfl (by decide) (by decide) (by omega) (by omega) (Nat.le_of_ble_eq_true rfl) (fun _ _ _ hq => nomatch hq.1) (fun r h2 N2 hq => ?_)
      obtain ⟨hr, e1, e2⟩ := hq
      cases hr
      rw [e1, e2]
      clear e1 e2
      show q_Ev l G m_md_close 7 165 0 0 40 [some (.ref (42)), some (.int (nI (j))), none] [.int (nI (0))] _ N _
      exact e_iret (pc := 40) d_md_close_40 rfl (by rw [hr0]; unfold m_close; rw [if_pos hs1, nT_n (by omega), if_neg (fun z => by rw [z.1] at c1; exact nomatch c1)]; exact ⟨rfl, rfl, rfl⟩)
    · refine e_aload_n (pc := 28) d_md_close_28 rfl ?_
      refine e_callV (As := []) (st := []) (cc2 := 0) (ss2 := 0) (pc := 29) d_md_close_29 rfl cv_md_118 md_g42 rfl (c_md_quorum (M := ((nI 0, ld, ep, tm), L, S, C, W, T)) htr hO.1) rfl (by decide) (by decide) (by omega) (by omega) (Nat.le_of_ble_eq_true rfl) (fun _ _ _ hq => nomatch hq.1) (fun r h2 N2 hq => ?_)
      obtain ⟨hr, e1, e2⟩ := hq
      cases hr
      rw [e1, e2]
      clear e1 e2
      show q_Ev l G m_md_close 7 165 0 0 32 [some (.ref (42)), some (.int (nI (j))), none] [.int (bI (m_qr ((fa, ld, ep, tm), L, S, C, W, T)))] (md_put h (((nI (0)), ld, (ep), (tm)), ((L.1), (L.2.1), (L.2.2.1), (L.2.2.2)), ((S.1), (S.2.1), (S.2.2.1), (S.2.2.2.1), (S.2.2.2.2)), ((C.1), (C.2.1), (C.2.2.1), (C.2.2.2.1), (C.2.2.2.2)), ((W.1), (W.2.1), (W.2.2.1), (W.2.2.2)), ((T.1), (T.2.1), (T.2.2.1), (T.2.2.2.1), (T.2.2.2.2)))) N _
      refine e_ifB_ne (pc := 32) (tgt := 41) d_md_close_32 (by decide) (fun c4 => ?_) (fun c4 => ?_)
      · obtain ⟨r, hl⟩ := m_rc_ld c1
        change ld = some r at hl
        subst hl
        have hr := hO.1 r rfl
        show q_Ev l G m_md_close 7 165 0 0 41 [some (.ref (42)), some (.int (nI (j))), none] [] (md_put h (((nI (0)), (some r), ep, tm), ((L.1), (L.2.1), (L.2.2.1), (L.2.2.2)), ((S.1), (S.2.1), (S.2.2.1), (S.2.2.2.1), (S.2.2.2.2)), ((C.1), (C.2.1), (C.2.2.1), (C.2.2.2.1), (C.2.2.2.2)), ((W.1), (W.2.1), (W.2.2.1), (W.2.2.2)), ((T.1), (T.2.1), (T.2.2.1), (T.2.2.2.1), (T.2.2.2.2)))) N _
        refine e_aload_n (pc := 41) d_md_close_41 rfl ?_
        refine e_callV (As := []) (st := []) (cc2 := 0) (ss2 := 0) (pc := 42) d_md_close_42 rfl cv_md_128 md_g42 rfl (c_md_planned htr (show n ≤ 80 by omega) hr hO.2.1 hO.2.2.1 hO.2.2.2) rfl (by decide) (by decide) (by omega) (by omega) (Nat.le_of_ble_eq_true rfl) (fun _ _ _ hq => nomatch hq.1) (fun r h2 N2 hq => ?_)
        obtain ⟨hr, e1, e2⟩ := hq
        cases hr
        rw [e1, e2]
        clear e1 e2
        show q_Ev l G m_md_close 7 165 0 0 45 [some (.ref (42)), some (.int (nI (j))), none] [] _ N _
        show q_Ev l G m_md_close 7 165 0 0 45 [some (.ref (42)), some (.int (nI (j))), none] [] (md_put h (((nI (0)), (some r), ep, tm), ((L.1), (L.2.1), (L.2.2.1), (L.2.2.2)), ((S.1), (S.2.1), (S.2.2.1), (S.2.2.2.1), (S.2.2.2.2)), ((C.1), (C.2.1), (C.2.2.1), (C.2.2.2.1), (C.2.2.2.2)), ((W.1), (W.2.1), (W.2.2.1), (W.2.2.2)), (((grT L r (S.1 r) T).1), ((grT L r (S.1 r) T).2.1), ((grT L r (S.1 r) T).2.2.1), ((grT L r (S.1 r) T).2.2.2.1), ((grT L r (S.1 r) T).2.2.2.2)))) N _
        refine e_aload_n (pc := 45) d_md_close_45 rfl ?_
        refine e_iload_n (pc := 46) d_md_close_46 rfl ?_
        refine e_callV (As := [.int (nI (j))]) (st := []) (cc2 := 0) (ss2 := 0) (pc := 47) d_md_close_47 rfl cv_md_131 md_g42 rfl (c_md_owned htr) rfl (by decide) (by decide) (by omega) (by omega) (Nat.le_of_ble_eq_true rfl) (fun _ _ _ hq => nomatch hq.1) (fun r h2 N2 hq => ?_)
        obtain ⟨hr, e1, e2⟩ := hq
        cases hr
        rw [e1, e2]
        clear e1 e2
        show q_Ev l G m_md_close 7 165 0 0 50 [some (.ref (42)), some (.int (nI (j))), none] [.int (nI (owT (grT L r (S.1 r) T) (nI j)))] (md_put h (((nI (0)), (some r), ep, tm), ((L.1), (L.2.1), (L.2.2.1), (L.2.2.2)), ((S.1), (S.2.1), (S.2.2.1), (S.2.2.2.1), (S.2.2.2.2)), ((C.1), (C.2.1), (C.2.2.1), (C.2.2.2.1), (C.2.2.2.2)), ((W.1), (W.2.1), (W.2.2.1), (W.2.2.2)), (((grT L r (S.1 r) T).1), ((grT L r (S.1 r) T).2.1), ((grT L r (S.1 r) T).2.2.1), ((grT L r (S.1 r) T).2.2.2.1), ((grT L r (S.1 r) T).2.2.2.2)))) N _
        refine e_istore_n (pc := 50) d_md_close_50 (by decide) ?_
        refine e_aload_n (pc := 51) d_md_close_51 rfl ?_
        refine e_iload_n (pc := 52) d_md_close_52 rfl ?_
        refine e_callV (As := [.int (nI (j))]) (st := []) (cc2 := 0) (ss2 := 0) (pc := 53) d_md_close_53 rfl cv_md_161 md_g42 rfl (c_md_finish htr hj) rfl (by decide) (by decide) (by omega) (by omega) (Nat.le_of_ble_eq_true rfl) (fun _ _ _ hq => nomatch hq.1) (fun r h2 N2 hq => ?_)
        obtain ⟨hr, e1, e2⟩ := hq
        cases hr
        rw [e1, e2]
        clear e1 e2
        show q_Ev l G m_md_close 7 165 0 0 56 [some (.ref (42)), some (.int (nI (j))), some (.int (nI (owT (grT L r (S.1 r) T) (nI j))))] [] _ N _
        refine e_aload_n (pc := 56) d_md_close_56 rfl ?_
        refine e_iload_n (pc := 57) d_md_close_57 rfl ?_
        refine e_callV (As := [.int (nI (owT (grT L r (S.1 r) T) (nI j)))]) (st := []) (cc2 := 0) (ss2 := 0) (pc := 58) d_md_close_58 rfl cv_md_155 md_g42 rfl (c_md_end htr (show _ ≤ 76 by omega) ⟨hO.1, hO.2.1, mWo_z hO.2.2.1, hO.2.2.2⟩) rfl (by decide) (by decide) (by omega) (by omega) (Nat.le_of_ble_eq_true rfl) (fun _ _ _ hq => nomatch hq.1) (fun r h2 N2 hq => ?_)
        obtain ⟨hr, e1, e2⟩ := hq
        cases hr
        rw [e1, e2]
        clear e1 e2
        show q_Ev l G m_md_close 7 165 0 0 61 [some (.ref (42)), some (.int (nI (j))), some (.int (nI (owT (grT L r (S.1 r) T) (nI j))))] [.int (nI (owT (grT L r (S.1 r) T) (nI j)))] _ N _
        exact e_iret (pc := 61) d_md_close_61 rfl (by rw [hr0]; unfold m_close; rw [if_pos hs1, nT_n (by omega), if_pos ⟨c1, c4⟩]; exact ⟨rfl, rfl, rfl⟩)
      · refine e_aload_n (pc := 35) d_md_close_35 rfl ?_
        refine e_iconst (pc := 36) d_md_close_36 (v := (nI (2))) rfl ?_
        refine e_callV (As := [.int (nI (2))]) (st := []) (cc2 := 0) (ss2 := 0) (pc := 37) d_md_close_37 rfl cv_md_149 md_g42 rfl (c_md_fail htr) rfl (by decide) (by decide) (by omega) (by omega) (Nat.le_of_ble_eq_true rfl) (fun _ _ _ hq => nomatch hq.1) (fun r h2 N2 hq => ?_)
        obtain ⟨hr, e1, e2⟩ := hq
        cases hr
        rw [e1, e2]
        clear e1 e2
        show q_Ev l G m_md_close 7 165 0 0 40 [some (.ref (42)), some (.int (nI (j))), none] [.int (nI (0))] _ N _
        exact e_iret (pc := 40) d_md_close_40 rfl (by rw [hr0]; unfold m_close; rw [if_pos hs1, nT_n (by omega), if_neg (fun z => by rw [z.2] at c4; exact nomatch c4)]; exact ⟨rfl, rfl, rfl⟩)
  · have hs := out_t (n := 3) (by decide) co
    refine e_aload_n (pc := 14) d_md_close_14 rfl ?_
    refine e_iconst (pc := 15) d_md_close_15 (v := (nI (1))) rfl ?_
    refine e_callV (As := [.int (nI (1))]) (st := []) (cc2 := 0) (ss2 := 0) (pc := 16) d_md_close_16 rfl cv_md_149 md_g42 rfl (c_md_fail htr) rfl (by decide) (by decide) (by omega) (by omega) (Nat.le_of_ble_eq_true rfl) (fun _ _ _ hq => nomatch hq.1) (fun r h2 N2 hq => ?_)
    obtain ⟨hr, e1, e2⟩ := hq
    cases hr
    rw [e1, e2]
    clear e1 e2
    show q_Ev l G m_md_close 7 165 0 0 19 [some (.ref (42)), some (.int (s)), none] [.int (nI (0))] _ N _
    exact e_iret (pc := 19) d_md_close_19 rfl (by rw [hr0]; unfold m_close; rw [if_neg hs]; exact ⟨rfl, rfl, rfl⟩)
def m_move (s i : Int32) (M : mR) : Int32 × mR := if (nI 0 ≤ s ∧ s ≤ nI 3) ∧ (nI 0 ≤ i ∧ i ≤ nI 2) then if M.2.2.2.1.1 (nT s) = true ∧ M.2.2.1.2.2.2.1 (nT i) = false then m_E (nI (M.2.2.2.1.2.2.1 (nT s))) (M.1, M.2.1, M.2.2.1, (M.2.2.2.1.1, M.2.2.2.1.2.1, va_up M.2.2.2.1.2.2.1 (nT s) (nT i), M.2.2.2.1.2.2.2), (fgK M.2.2.2.2.1.1 (nT s) 259, fgK M.2.2.2.2.1.2.1 (nT s) 259, M.2.2.2.2.1.2.2), M.2.2.2.2.2) else m_F 2 M else m_F 1 M
set_option maxHeartbeats 400000 in
set_option maxRecDepth 100000 in
theorem c_md_move {l : Launch} {G : q_G} (htr : l.stackTraces = false) {h : q_H} {N : Nat} {fa : Int32} {ld : Option Nat} {ep : Nat} {tm : Int32} {L : mL} {S : mS} {C : mC} {W : mW} {T : mT} {s i : Int32} {n : Nat} (hn : n ≤ 72) (hO : mOK n ((fa, ld, ep, tm), L, S, C, W, T)) : q_Met l G m_md_move 7 165 0 0 [.ref (42), .int (s), .int (i)] (md_put h ((fa, ld, ep, tm), L, S, C, W, T)) N (q_To (some (.int (m_move s i ((fa, ld, ep, tm), L, S, C, W, T)).1)) (md_put h (m_move s i ((fa, ld, ep, tm), L, S, C, W, T)).2) N) := by
  obtain ⟨r0, hr0⟩ : ∃ r, r = m_move s i ((fa, ld, ep, tm), L, S, C, W, T) := ⟨_, rfl⟩
  rw [← hr0]
  refine q_Met.mk htr (by decide +kernel) rfl (List.forall_mem_cons.mpr ⟨rfl, List.forall_mem_cons.mpr ⟨rfl, List.forall_mem_cons.mpr ⟨rfl, fun _ h => nomatch h⟩⟩⟩) (Nat.le_of_ble_eq_true rfl) ?_
  refine e_aload_n (pc := 0) d_md_move_0 rfl ?_
  refine e_iconst (pc := 1) d_md_move_1 (v := (nI (0))) rfl ?_
  refine e_putE (pc := 2) d_md_move_2 (fs2 := [.int (nI (0)), .ref (43), .ref (44), .ref (45), .ref (46), .ref (47), .ref (48), .ref (49), .ref (50), .ref (51), .int (ldI ld), .int (nI (ep)), .int (tm), .ref (52), .ref (53), .ref (54), .ref (55), .ref (56), .ref (57), .ref (58), .ref (59), .ref (60), .ref (61), .ref (62), .ref (63), .ref (64), .ref (65)]) fl_md_84 md_g42 (Nat.le_of_ble_eq_true rfl) (fun _ => rfl) (fun _ => rfl) rfl ?_
  rw [md_u42 (ld := ld)]
  show q_Ev l G m_md_move 7 165 0 0 5 [some (.ref (42)), some (.int (s)), some (.int (i)), none] [] (md_put h (((nI (0)), ld, (ep), (tm)), ((L.1), (L.2.1), (L.2.2.1), (L.2.2.2)), ((S.1), (S.2.1), (S.2.2.1), (S.2.2.2.1), (S.2.2.2.2)), ((C.1), (C.2.1), (C.2.2.1), (C.2.2.2.1), (C.2.2.2.2)), ((W.1), (W.2.1), (W.2.2.1), (W.2.2.2)), ((T.1), (T.2.1), (T.2.2.1), (T.2.2.2.1), (T.2.2.2.2)))) N _
  refine e_aload_n (pc := 5) d_md_move_5 rfl ?_
  refine e_iload_n (pc := 6) d_md_move_6 rfl ?_
  refine e_iconst (pc := 7) d_md_move_7 (v := (nI (4))) rfl ?_
  refine e_callV (As := [.int (s), .int (nI (4))]) (st := []) (cc2 := 0) (ss2 := 0) (pc := 8) d_md_move_8 rfl cv_md_145 md_g42 rfl (c_md_out htr) rfl (by decide) (by decide) (by omega) (by omega) (Nat.le_of_ble_eq_true rfl) (fun _ _ _ hq => nomatch hq.1) (fun r h2 N2 hq => ?_)
  obtain ⟨hr, e1, e2⟩ := hq
  cases hr
  rw [e1, e2]
  clear e1 e2
  show q_Ev l G m_md_move 7 165 0 0 11 [some (.ref (42)), some (.int (s)), some (.int (i)), none] [.int (bI (decide (s < 0 ∨ ¬ s < nI 4)))] (md_put h (((nI (0)), ld, (ep), (tm)), ((L.1), (L.2.1), (L.2.2.1), (L.2.2.2)), ((S.1), (S.2.1), (S.2.2.1), (S.2.2.2.1), (S.2.2.2.2)), ((C.1), (C.2.1), (C.2.2.1), (C.2.2.2.1), (C.2.2.2.2)), ((W.1), (W.2.1), (W.2.2.1), (W.2.2.2)), ((T.1), (T.2.1), (T.2.2.1), (T.2.2.2.1), (T.2.2.2.2)))) N _
  refine e_ifB_ne (pc := 11) (tgt := 23) d_md_move_11 (by decide) (fun co => ?_) (fun co => ?_)
  · have hs := out_t (n := 3) (by decide) co
    refine e_aload_n (pc := 23) d_md_move_23 rfl ?_
    refine e_iconst (pc := 24) d_md_move_24 (v := (nI (1))) rfl ?_
    refine e_callV (As := [.int (nI (1))]) (st := []) (cc2 := 0) (ss2 := 0) (pc := 25) d_md_move_25 rfl cv_md_149 md_g42 rfl (c_md_fail htr) rfl (by decide) (by decide) (by omega) (by omega) (Nat.le_of_ble_eq_true rfl) (fun _ _ _ hq => nomatch hq.1) (fun r h2 N2 hq => ?_)
    obtain ⟨hr, e1, e2⟩ := hq
    cases hr
    rw [e1, e2]
    clear e1 e2
    show q_Ev l G m_md_move 7 165 0 0 28 [some (.ref (42)), some (.int (s)), some (.int (i)), none] [.int (nI (0))] _ N _
    exact e_iret (pc := 28) d_md_move_28 rfl (by rw [hr0]; unfold m_move; rw [if_neg (fun z => hs z.1)]; exact ⟨rfl, rfl, rfl⟩)
  · have hs := out_f (n := 3) (by decide) co
    refine e_aload_n (pc := 14) d_md_move_14 rfl ?_
    refine e_iload_n (pc := 15) d_md_move_15 rfl ?_
    refine e_iconst (pc := 16) d_md_move_16 (v := (nI (3))) rfl ?_
    refine e_callV (As := [.int (i), .int (nI (3))]) (st := []) (cc2 := 0) (ss2 := 0) (pc := 17) d_md_move_17 rfl cv_md_145 md_g42 rfl (c_md_out htr) rfl (by decide) (by decide) (by omega) (by omega) (Nat.le_of_ble_eq_true rfl) (fun _ _ _ hq => nomatch hq.1) (fun r h2 N2 hq => ?_)
    obtain ⟨hr, e1, e2⟩ := hq
    cases hr
    rw [e1, e2]
    clear e1 e2
    show q_Ev l G m_md_move 7 165 0 0 20 [some (.ref (42)), some (.int (s)), some (.int (i)), none] [.int (bI (decide (i < 0 ∨ ¬ i < nI 3)))] (md_put h (((nI (0)), ld, (ep), (tm)), ((L.1), (L.2.1), (L.2.2.1), (L.2.2.2)), ((S.1), (S.2.1), (S.2.2.1), (S.2.2.2.1), (S.2.2.2.2)), ((C.1), (C.2.1), (C.2.2.1), (C.2.2.2.1), (C.2.2.2.2)), ((W.1), (W.2.1), (W.2.2.1), (W.2.2.2)), ((T.1), (T.2.1), (T.2.2.1), (T.2.2.2.1), (T.2.2.2.2)))) N _
    refine e_ifB_eq (pc := 20) (tgt := 29) d_md_move_20 (by decide) (fun co => ?_) (fun co => ?_)
    · have hi := out_f (n := 2) (by decide) co
      have hs1 := hs
      have hi1 := hi
      obtain ⟨j, hj, ej⟩ := q_ofL (n := 3) (by decide) hs
      subst ej
      obtain ⟨k, hk, ek⟩ := q_ofL (n := 2) (by decide) hi
      subst ek
      refine e_aload_n (pc := 29) d_md_move_29 rfl ?_
      refine e_get (pc := 30) d_md_move_30 fl_md_42 md_g42 rfl ?_
      refine e_iload_n (pc := 33) d_md_move_33 rfl ?_
      refine e_zaldN (pc := 34) d_md_move_34 (f := (C.1)) md_g52 (by omega) (by decide) ?_
      refine e_ifB_eq (pc := 35) (tgt := 47) d_md_move_35 (by decide) (fun c1 => ?_) (fun c1 => ?_)
      · refine e_aload_n (pc := 47) d_md_move_47 rfl ?_
        refine e_iconst (pc := 48) d_md_move_48 (v := (nI (2))) rfl ?_
        refine e_callV (As := [.int (nI (2))]) (st := []) (cc2 := 0) (ss2 := 0) (pc := 49) d_md_move_49 rfl cv_md_149 md_g42 rfl (c_md_fail htr) rfl (by decide) (by decide) (by omega) (by omega) (Nat.le_of_ble_eq_true rfl) (fun _ _ _ hq => nomatch hq.1) (fun r h2 N2 hq => ?_)
        obtain ⟨hr, e1, e2⟩ := hq
        cases hr
        rw [e1, e2]
        clear e1 e2
        show q_Ev l G m_md_move 7 165 0 0 52 [some (.ref (42)), some (.int (nI (j))), some (.int (nI (k))), none] [.int (nI (0))] _ N _
        exact e_iret (pc := 52) d_md_move_52 rfl (by rw [hr0]; unfold m_move; rw [if_pos ⟨hs1, hi1⟩, nT_n (by omega), nT_n (by omega), if_neg (fun z => by rw [z.1] at c1; exact nomatch c1)]; exact ⟨rfl, rfl, rfl⟩)
      · refine e_aload_n (pc := 38) d_md_move_38 rfl ?_
        refine e_get (pc := 39) d_md_move_39 fl_md_31 md_g42 rfl ?_
        refine e_iload_n (pc := 42) d_md_move_42 rfl ?_
        refine e_zaldN (pc := 43) d_md_move_43 (f := (S.2.2.2.1)) md_g50 (by omega) (by decide) ?_
        refine e_ifB_eq (pc := 44) (tgt := 53) d_md_move_44 (by decide) (fun c2 => ?_) (fun c2 => ?_)
        · refine e_aload_n (pc := 53) d_md_move_53 rfl ?_
          refine e_get (pc := 54) d_md_move_54 fl_md_48 md_g42 rfl ?_
          refine e_iload_n (pc := 57) d_md_move_57 rfl ?_
          refine e_naldN (pc := 58) d_md_move_58 (f := (C.2.2.1)) md_g54 (by omega) (by decide) ?_
          refine e_istore_n (pc := 59) d_md_move_59 (by decide) ?_
          refine e_aload_n (pc := 60) d_md_move_60 rfl ?_
          refine e_get (pc := 61) d_md_move_61 fl_md_48 md_g42 rfl ?_
          refine e_iload_n (pc := 64) d_md_move_64 rfl ?_
          refine e_iload_n (pc := 65) d_md_move_65 rfl ?_
          refine e_nastN (pc := 66) d_md_move_66 (f := (C.2.2.1)) md_g54 (by omega) (by decide) ?_
          rw [md_u54]
          show q_Ev l G m_md_move 7 165 0 0 67 [some (.ref (42)), some (.int (nI (j))), some (.int (nI (k))), some (.int (nI (((C.2.2.1)) (j))))] [] (md_put h (((nI (0)), ld, (ep), (tm)), ((L.1), (L.2.1), (L.2.2.1), (L.2.2.2)), ((S.1), (S.2.1), (S.2.2.1), (S.2.2.2.1), (S.2.2.2.2)), ((C.1), (C.2.1), (va_up ((C.2.2.1)) (j) (k)), (C.2.2.2.1), (C.2.2.2.2)), ((W.1), (W.2.1), (W.2.2.1), (W.2.2.2)), ((T.1), (T.2.1), (T.2.2.1), (T.2.2.2.1), (T.2.2.2.2)))) N _
          refine e_aload_n (pc := 67) d_md_move_67 rfl ?_
          refine e_iload_n (pc := 68) d_md_move_68 rfl ?_
          refine e_callV (As := [.int (nI (j))]) (st := []) (cc2 := 0) (ss2 := 0) (pc := 69) d_md_move_69 rfl cv_md_141 md_g42 rfl (c_md_forget htr hj) rfl (by decide) (by decide) (by omega) (by omega) (Nat.le_of_ble_eq_true rfl) (fun _ _ _ hq => nomatch hq.1) (fun r h2 N2 hq => ?_)
          obtain ⟨hr, e1, e2⟩ := hq
          cases hr
          rw [e1, e2]
          clear e1 e2
          show q_Ev l G m_md_move 7 165 0 0 72 [some (.ref (42)), some (.int (nI (j))), some (.int (nI (k))), some (.int (nI (((C.2.2.1)) (j))))] [] _ N _
          refine e_aload_n (pc := 72) d_md_move_72 rfl ?_
          refine e_iload_n (pc := 73) d_md_move_73 rfl ?_
          refine e_callV (As := [.int (nI (((C.2.2.1)) (j)))]) (st := []) (cc2 := 0) (ss2 := 0) (pc := 74) d_md_move_74 rfl cv_md_155 md_g42 rfl (c_md_end htr (show _ ≤ 76 by omega) ⟨hO.1, mCo_up hO.2.1 hk, hO.2.2⟩) rfl (by decide) (by decide) (by omega) (by omega) (Nat.le_of_ble_eq_true rfl) (fun _ _ _ hq => nomatch hq.1) (fun r h2 N2 hq => ?_)
          obtain ⟨hr, e1, e2⟩ := hq
          cases hr
          rw [e1, e2]
          clear e1 e2
          show q_Ev l G m_md_move 7 165 0 0 77 [some (.ref (42)), some (.int (nI (j))), some (.int (nI (k))), some (.int (nI (((C.2.2.1)) (j))))] [.int (nI (C.2.2.1 j))] _ N _
          exact e_iret (pc := 77) d_md_move_77 rfl (by rw [hr0]; unfold m_move; rw [if_pos ⟨hs1, hi1⟩, nT_n (by omega), nT_n (by omega), if_pos ⟨c1, c2⟩]; exact ⟨rfl, rfl, rfl⟩)
        · refine e_aload_n (pc := 47) d_md_move_47 rfl ?_
          refine e_iconst (pc := 48) d_md_move_48 (v := (nI (2))) rfl ?_
          refine e_callV (As := [.int (nI (2))]) (st := []) (cc2 := 0) (ss2 := 0) (pc := 49) d_md_move_49 rfl cv_md_149 md_g42 rfl (c_md_fail htr) rfl (by decide) (by decide) (by omega) (by omega) (Nat.le_of_ble_eq_true rfl) (fun _ _ _ hq => nomatch hq.1) (fun r h2 N2 hq => ?_)
          obtain ⟨hr, e1, e2⟩ := hq
          cases hr
          rw [e1, e2]
          clear e1 e2
          show q_Ev l G m_md_move 7 165 0 0 52 [some (.ref (42)), some (.int (nI (j))), some (.int (nI (k))), none] [.int (nI (0))] _ N _
          exact e_iret (pc := 52) d_md_move_52 rfl (by rw [hr0]; unfold m_move; rw [if_pos ⟨hs1, hi1⟩, nT_n (by omega), nT_n (by omega), if_neg (fun z => by rw [z.2] at c2; exact nomatch c2)]; exact ⟨rfl, rfl, rfl⟩)
    · have hi := out_t (n := 2) (by decide) co
      refine e_aload_n (pc := 23) d_md_move_23 rfl ?_
      refine e_iconst (pc := 24) d_md_move_24 (v := (nI (1))) rfl ?_
      refine e_callV (As := [.int (nI (1))]) (st := []) (cc2 := 0) (ss2 := 0) (pc := 25) d_md_move_25 rfl cv_md_149 md_g42 rfl (c_md_fail htr) rfl (by decide) (by decide) (by omega) (by omega) (Nat.le_of_ble_eq_true rfl) (fun _ _ _ hq => nomatch hq.1) (fun r h2 N2 hq => ?_)
      obtain ⟨hr, e1, e2⟩ := hq
      cases hr
      rw [e1, e2]
      clear e1 e2
      show q_Ev l G m_md_move 7 165 0 0 28 [some (.ref (42)), some (.int (s)), some (.int (i)), none] [.int (nI (0))] _ N _
      exact e_iret (pc := 28) d_md_move_28 rfl (by rw [hr0]; unfold m_move; rw [if_neg (fun z => hi z.2)]; exact ⟨rfl, rfl, rfl⟩)

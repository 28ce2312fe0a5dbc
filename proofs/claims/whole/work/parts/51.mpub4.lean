/-! THE MODEL'S PUBLIC METHODS (4) -/
def crR (f : Nat) (q : Int32) : Prop := (2 ≤ f ∧ nI 0 ≤ q ∧ q ≤ nI 42) ∨ (f < 2 ∧ nI 1 ≤ q ∧ q ≤ nI 258)
def m_cr (up p k : Nat) (sq : Bool) (d ow : Int32) (P : mR) : Int32 × mR := if P.2.2.2.2.2.1 up = true then if 0 ≤ P.2.2.2.2.2.2.2.2.2 up ∨ (sq = true ∧ P.2.2.2.2.2.2.2.2.1 up = 6) then m_F 4 P else if P.2.2.2.2.2.1 p = true then m_F 5 P else m_prop (k, p, d, ow) (nI p) P else m_F 3 P
def m_create (s q d f : Int32) (M : mR) : Int32 × mR := if (nI 0 ≤ s ∧ s ≤ nI 3) ∧ (nI 0 ≤ f ∧ f ≤ nI 3) ∧ ((2 ≤ nT f ∧ nI 0 ≤ q ∧ q ≤ nI 42) ∨ (nT f < 2 ∧ nI 1 ≤ q ∧ q ≤ nI 258)) then if m_rc M (nT s) = true then if 2 ≤ nT f then m_cr (nT q) (6 * nT q + (pnM M).2.2.2.2.2.2.2.2.1 (nT q) + 1) 1 true d (if nT f % 2 = 0 then -1 else s) (pnM M) else m_cr ((nT q - 1) / 6) (nT q) 0 false d (if nT f % 2 = 0 then -1 else s) (pnM M) else m_F 2 M else m_F 1 M
set_option maxHeartbeats 400000 in
set_option maxRecDepth 100000 in
theorem c_md_create {l : Launch} {G : q_G} (htr : l.stackTraces = false) {h : q_H} {N : Nat} {fa : Int32} {ld : Option Nat} {ep : Nat} {tm : Int32} {L : mL} {S : mS} {C : mC} {W : mW} {T : mT} {s q d f : Int32} {n : Nat} (hn : n ≤ 72) (hO : mOK n ((fa, ld, ep, tm), L, S, C, W, T)) (hnx : ∀ r, ld = some r → ∀ u, u < 43 → (grT L r (S.1 r) T).1 u = true → (grT L r (S.1 r) T).2.2.2.1 u ≤ 6) : q_Met l G m_md_create 7 165 0 0 [.ref (42), .int (s), .int (q), .int (d), .int (f)] (md_put h ((fa, ld, ep, tm), L, S, C, W, T)) N (q_To (some (.int (m_create s q d f ((fa, ld, ep, tm), L, S, C, W, T)).1)) (md_put h (m_create s q d f ((fa, ld, ep, tm), L, S, C, W, T)).2) N) := by
  obtain ⟨r0, hr0⟩ : ∃ r, r = m_create s q d f ((fa, ld, ep, tm), L, S, C, W, T) := ⟨_, rfl⟩
  rw [← hr0]
  refine q_Met.mk htr (by decide +kernel) rfl (List.forall_mem_cons.mpr ⟨rfl, List.forall_mem_cons.mpr ⟨rfl, List.forall_mem_cons.mpr ⟨rfl, List.forall_mem_cons.mpr ⟨rfl, List.forall_mem_cons.mpr ⟨rfl, fun _ h => nomatch h⟩⟩⟩⟩⟩) (Nat.le_of_ble_eq_true rfl) ?_
  refine e_aload_n (pc := 0) d_md_create_0 rfl ?_
  refine e_iconst (pc := 1) d_md_create_1 (v := (nI (0))) rfl ?_
  refine e_putE (pc := 2) d_md_create_2 (fs2 := [.int (nI (0)), .ref (43), .ref (44), .ref (45), .ref (46), .ref (47), .ref (48), .ref (49), .ref (50), .ref (51), .int (ldI ld), .int (nI (ep)), .int (tm), .ref (52), .ref (53), .ref (54), .ref (55), .ref (56), .ref (57), .ref (58), .ref (59), .ref (60), .ref (61), .ref (62), .ref (63), .ref (64), .ref (65)]) fl_md_84 md_g42 (Nat.le_of_ble_eq_true rfl) (fun _ => rfl) (fun _ => rfl) rfl ?_
  rw [md_u42 (ld := ld)]
  show q_Ev l G m_md_create 7 165 0 0 5 [some (.ref (42)), some (.int (s)), some (.int (q)), some (.int (d)), some (.int (f)), none, none] [] (md_put h (((nI (0)), ld, (ep), (tm)), ((L.1), (L.2.1), (L.2.2.1), (L.2.2.2)), ((S.1), (S.2.1), (S.2.2.1), (S.2.2.2.1), (S.2.2.2.2)), ((C.1), (C.2.1), (C.2.2.1), (C.2.2.2.1), (C.2.2.2.2)), ((W.1), (W.2.1), (W.2.2.1), (W.2.2.2)), ((T.1), (T.2.1), (T.2.2.1), (T.2.2.2.1), (T.2.2.2.2)))) N _
  refine e_aload_n (pc := 5) d_md_create_5 rfl ?_
  refine e_iload_n (pc := 6) d_md_create_6 rfl ?_
  refine e_iconst (pc := 7) d_md_create_7 (v := (nI (4))) rfl ?_
  refine e_callV (As := [.int (s), .int (nI (4))]) (st := []) (cc2 := 0) (ss2 := 0) (pc := 8) d_md_create_8 rfl cv_md_145 md_g42 rfl (c_md_out htr) rfl (by decide) (by decide) (by omega) (by omega) (Nat.le_of_ble_eq_true rfl) (fun _ _ _ hq => nomatch hq.1) (fun r h2 N2 hq => ?_)
  obtain ⟨hr, e1, e2⟩ := hq
  cases hr
  rw [e1, e2]
  clear e1 e2
  show q_Ev l G m_md_create 7 165 0 0 11 [some (.ref (42)), some (.int (s)), some (.int (q)), some (.int (d)), some (.int (f)), none, none] [.int (bI (decide (s < 0 ∨ ¬ s < nI 4)))] (md_put h (((nI (0)), ld, (ep), (tm)), ((L.1), (L.2.1), (L.2.2.1), (L.2.2.2)), ((S.1), (S.2.1), (S.2.2.1), (S.2.2.2.1), (S.2.2.2.2)), ((C.1), (C.2.1), (C.2.2.1), (C.2.2.2.1), (C.2.2.2.2)), ((W.1), (W.2.1), (W.2.2.1), (W.2.2.2)), ((T.1), (T.2.1), (T.2.2.1), (T.2.2.2.1), (T.2.2.2.2)))) N _
  refine e_ifB_ne (pc := 11) (tgt := 57) d_md_create_11 (by decide) (fun co => ?_) (fun co => ?_)
  · have hs := out_t (n := 3) (by decide) co
    refine e_aload_n (pc := 57) d_md_create_57 rfl ?_
    refine e_iconst (pc := 58) d_md_create_58 (v := (nI (1))) rfl ?_
    refine e_callV (As := [.int (nI (1))]) (st := []) (cc2 := 0) (ss2 := 0) (pc := 59) d_md_create_59 rfl cv_md_149 md_g42 rfl (c_md_fail htr) rfl (by decide) (by decide) (by omega) (by omega) (Nat.le_of_ble_eq_true rfl) (fun _ _ _ hq => nomatch hq.1) (fun r h2 N2 hq => ?_)
    obtain ⟨hr, e1, e2⟩ := hq
    cases hr
    rw [e1, e2]
    clear e1 e2
    show q_Ev l G m_md_create 7 165 0 0 62 [some (.ref (42)), some (.int (s)), some (.int (q)), some (.int (d)), some (.int (f)), none, none] [.int (nI (0))] _ N _
    exact e_iret (pc := 62) d_md_create_62 rfl (by rw [hr0]; unfold m_create; rw [if_neg (fun z => hs z.1)]; exact ⟨rfl, rfl, rfl⟩)
  · have hs := out_f (n := 3) (by decide) co
    refine e_aload_n (pc := 14) d_md_create_14 rfl ?_
    refine e_iload (pc := 15) d_md_create_15 rfl ?_
    refine e_iconst (pc := 17) d_md_create_17 (v := (nI (4))) rfl ?_
    refine e_callV (As := [.int (f), .int (nI (4))]) (st := []) (cc2 := 0) (ss2 := 0) (pc := 18) d_md_create_18 rfl cv_md_145 md_g42 rfl (c_md_out htr) rfl (by decide) (by decide) (by omega) (by omega) (Nat.le_of_ble_eq_true rfl) (fun _ _ _ hq => nomatch hq.1) (fun r h2 N2 hq => ?_)
    obtain ⟨hr, e1, e2⟩ := hq
    cases hr
    rw [e1, e2]
    clear e1 e2
    show q_Ev l G m_md_create 7 165 0 0 21 [some (.ref (42)), some (.int (s)), some (.int (q)), some (.int (d)), some (.int (f)), none, none] [.int (bI (decide (f < 0 ∨ ¬ f < nI 4)))] (md_put h (((nI (0)), ld, (ep), (tm)), ((L.1), (L.2.1), (L.2.2.1), (L.2.2.2)), ((S.1), (S.2.1), (S.2.2.1), (S.2.2.2.1), (S.2.2.2.2)), ((C.1), (C.2.1), (C.2.2.1), (C.2.2.2.1), (C.2.2.2.2)), ((W.1), (W.2.1), (W.2.2.1), (W.2.2.2)), ((T.1), (T.2.1), (T.2.2.1), (T.2.2.2.1), (T.2.2.2.2)))) N _
    refine e_ifB_ne (pc := 21) (tgt := 57) d_md_create_21 (by decide) (fun co => ?_) (fun co => ?_)
    · have hf := out_t (n := 3) (by decide) co
      refine e_aload_n (pc := 57) d_md_create_57 rfl ?_
      refine e_iconst (pc := 58) d_md_create_58 (v := (nI (1))) rfl ?_
      refine e_callV (As := [.int (nI (1))]) (st := []) (cc2 := 0) (ss2 := 0) (pc := 59) d_md_create_59 rfl cv_md_149 md_g42 rfl (c_md_fail htr) rfl (by decide) (by decide) (by omega) (by omega) (Nat.le_of_ble_eq_true rfl) (fun _ _ _ hq => nomatch hq.1) (fun r h2 N2 hq => ?_)
      obtain ⟨hr, e1, e2⟩ := hq
      cases hr
      rw [e1, e2]
      clear e1 e2
      show q_Ev l G m_md_create 7 165 0 0 62 [some (.ref (42)), some (.int (s)), some (.int (q)), some (.int (d)), some (.int (f)), none, none] [.int (nI (0))] _ N _
      exact e_iret (pc := 62) d_md_create_62 rfl (by rw [hr0]; unfold m_create; rw [if_neg (fun z => hf z.2.1)]; exact ⟨rfl, rfl, rfl⟩)
    · have hf := out_f (n := 3) (by decide) co
      have hs1 := hs
      have hf1 := hf
      obtain ⟨j, hj, ej⟩ := q_ofL (n := 3) (by decide) hs
      subst ej
      obtain ⟨f0, hf0, ef0⟩ := q_ofL (n := 3) (by decide) hf
      subst ef0
      rcases (by omega : f0 = 0 ∨ f0 = 1 ∨ f0 = 2 ∨ f0 = 3) with rfl | rfl | rfl | rfl
      · have ef : nT (nI 0) = 0 := rfl
        refine e_iload_n (pc := 24) d_md_create_24 rfl ?_
        refine e_iload (pc := 25) d_md_create_25 rfl ?_
        refine e_iconst (pc := 27) d_md_create_27 (v := (nI (2))) rfl ?_
        refine e_icmp_geN (pc := 28) (tgt := 35) d_md_create_28 (by decide) (by decide) (by decide) (fun c => absurd c (by decide)) (fun _ => ?_)
        refine e_iconst (pc := 31) d_md_create_31 (v := (nI (1))) rfl ?_
        refine e_goto (pc := 32) (tgt := 36) d_md_create_32 (by decide) ?_
        refine e_icmp_lt (pc := 36) (tgt := 57) d_md_create_36 (by decide) (fun ca => ?_) (fun ca => ?_)
        · refine e_aload_n (pc := 57) d_md_create_57 rfl ?_
          refine e_iconst (pc := 58) d_md_create_58 (v := (nI (1))) rfl ?_
          refine e_callV (As := [.int (nI (1))]) (st := []) (cc2 := 0) (ss2 := 0) (pc := 59) d_md_create_59 rfl cv_md_149 md_g42 rfl (c_md_fail htr) rfl (by decide) (by decide) (by omega) (by omega) (Nat.le_of_ble_eq_true rfl) (fun _ _ _ hq => nomatch hq.1) (fun r h2 N2 hq => ?_)
          obtain ⟨hr, e1, e2⟩ := hq
          cases hr
          rw [e1, e2]
          clear e1 e2
          show q_Ev l G m_md_create 7 165 0 0 62 [some (.ref (42)), some (.int (nI (j))), some (.int (q)), some (.int (d)), some (.int (nI (0))), none, none] [.int (nI (0))] _ N _
          exact e_iret (pc := 62) d_md_create_62 rfl (by rw [hr0]; unfold m_create; rw [if_neg (fun z => z.2.2.elim (fun y => absurd (show 2 ≤ (0 : Nat) from y.1) (by decide)) (fun y => Int32.not_le.mpr ca y.2.1))]; exact ⟨rfl, rfl, rfl⟩)
        · refine e_iload_n (pc := 39) d_md_create_39 rfl ?_
          refine e_iload (pc := 40) d_md_create_40 rfl ?_
          refine e_iconst (pc := 42) d_md_create_42 (v := (nI (2))) rfl ?_
          refine e_icmp_geN (pc := 43) (tgt := 52) d_md_create_43 (by decide) (by decide) (by decide) (fun c => absurd c (by decide)) (fun _ => ?_)
          refine e_sipush (pc := 46) d_md_create_46 (v := (nI (258))) rfl ?_
          refine e_goto (pc := 49) (tgt := 54) d_md_create_49 (by decide) ?_
          refine e_icmp_le (pc := 54) (tgt := 63) d_md_create_54 (by decide) (fun cb => ?_) (fun cb => ?_)
          · have hq1 : nI 1 ≤ q ∧ q ≤ nI 258 := ⟨Int32.not_lt.mp ca, cb⟩
            obtain ⟨p, ⟨hp1, hp⟩, ep9⟩ := q_of1 (n := 258) (by decide) hq1
            subst ep9
            refine e_aload_n (pc := 63) d_md_create_63 rfl ?_
            refine e_iload_n (pc := 64) d_md_create_64 rfl ?_
            refine e_callV (As := [.int (nI (j))]) (st := []) (cc2 := 0) (ss2 := 0) (pc := 65) d_md_create_65 rfl cv_md_158 md_g42 rfl (c_md_reaches (M := ((nI 0, ld, ep, tm), L, S, C, W, T)) htr hO.1 hj (hO.2.1 j hj)) rfl (by decide) (by decide) (by omega) (by omega) (Nat.le_of_ble_eq_true rfl) (fun _ _ _ hq => nomatch hq.1) (fun r h2 N2 hq => ?_)
            obtain ⟨hr, e1, e2⟩ := hq
            cases hr
            rw [e1, e2]
            clear e1 e2
            show q_Ev l G m_md_create 7 165 0 0 68 [some (.ref (42)), some (.int (nI (j))), some (.int (nI (p))), some (.int (d)), some (.int (nI (0))), none, none] [.int (bI (m_rc ((fa, ld, ep, tm), L, S, C, W, T) j))] (md_put h (((nI (0)), ld, (ep), (tm)), ((L.1), (L.2.1), (L.2.2.1), (L.2.2.2)), ((S.1), (S.2.1), (S.2.2.1), (S.2.2.2.1), (S.2.2.2.2)), ((C.1), (C.2.1), (C.2.2.1), (C.2.2.2.1), (C.2.2.2.2)), ((W.1), (W.2.1), (W.2.2.1), (W.2.2.2)), ((T.1), (T.2.1), (T.2.2.1), (T.2.2.2.1), (T.2.2.2.2)))) N _
            refine e_ifB_ne (pc := 68) (tgt := 77) d_md_create_68 (by decide) (fun c1 => ?_) (fun c1 => ?_)
            · obtain ⟨r, hl⟩ := m_rc_ld c1
              change ld = some r at hl
              subst hl
              have hr := hO.1 r rfl
              have eP : pnM ((fa, some r, ep, tm), L, S, C, W, T) = ((fa, some r, ep, tm), L, S, C, W, (grT L r (S.1 r) T)) := rfl
              have hlr : S.1 r ≤ n := (hO.2.2.2 r hr).1
              show q_Ev l G m_md_create 7 165 0 0 77 [some (.ref (42)), some (.int (nI (j))), some (.int (nI (p))), some (.int (d)), some (.int (nI (0))), none, none] [] (md_put h (((nI (0)), (some r), ep, tm), ((L.1), (L.2.1), (L.2.2.1), (L.2.2.2)), ((S.1), (S.2.1), (S.2.2.1), (S.2.2.2.1), (S.2.2.2.2)), ((C.1), (C.2.1), (C.2.2.1), (C.2.2.2.1), (C.2.2.2.2)), ((W.1), (W.2.1), (W.2.2.1), (W.2.2.2)), ((T.1), (T.2.1), (T.2.2.1), (T.2.2.2.1), (T.2.2.2.2)))) N _
              refine e_aload_n (pc := 77) d_md_create_77 rfl ?_
              refine e_callV (As := []) (st := []) (cc2 := 0) (ss2 := 0) (pc := 78) d_md_create_78 rfl cv_md_128 md_g42 rfl (c_md_planned htr (show n ≤ 80 by omega) hr hO.2.1 hO.2.2.1 hO.2.2.2) rfl (by decide) (by decide) (by omega) (by omega) (Nat.le_of_ble_eq_true rfl) (fun _ _ _ hq => nomatch hq.1) (fun r h2 N2 hq => ?_)
              obtain ⟨hr, e1, e2⟩ := hq
              cases hr
              rw [e1, e2]
              clear e1 e2
              show q_Ev l G m_md_create 7 165 0 0 81 [some (.ref (42)), some (.int (nI (j))), some (.int (nI (p))), some (.int (d)), some (.int (nI (0))), none, none] [] _ N _
              show q_Ev l G m_md_create 7 165 0 0 81 [some (.ref (42)), some (.int (nI (j))), some (.int (nI (p))), some (.int (d)), some (.int (nI (0))), none, none] [] (md_put h (((nI (0)), (some r), ep, tm), ((L.1), (L.2.1), (L.2.2.1), (L.2.2.2)), ((S.1), (S.2.1), (S.2.2.1), (S.2.2.2.1), (S.2.2.2.2)), ((C.1), (C.2.1), (C.2.2.1), (C.2.2.2.1), (C.2.2.2.2)), ((W.1), (W.2.1), (W.2.2.1), (W.2.2.2)), (((grT L r (S.1 r) T).1), ((grT L r (S.1 r) T).2.1), ((grT L r (S.1 r) T).2.2.1), ((grT L r (S.1 r) T).2.2.2.1), ((grT L r (S.1 r) T).2.2.2.2)))) N _
              refine e_iload (pc := 81) d_md_create_81 rfl ?_
              refine e_iconst (pc := 83) d_md_create_83 (v := (nI (2))) rfl ?_
              refine e_icmp_geN (pc := 84) (tgt := 95) d_md_create_84 (by decide) (by decide) (by decide) (fun c => absurd c (by decide)) (fun _ => ?_)
              refine e_aload_n (pc := 87) d_md_create_87 rfl ?_
              refine e_iload_n (pc := 88) d_md_create_88 rfl ?_
              refine e_callV (As := [.int (nI (p))]) (st := []) (cc2 := 0) (ss2 := 0) (pc := 89) d_md_create_89 rfl cv_md_87 md_g42 rfl (c_md_parent htr (show p < 259 by omega)) rfl (by decide) (by decide) (by omega) (by omega) (Nat.le_of_ble_eq_true rfl) (fun _ _ _ hq => nomatch hq.1) (fun r h2 N2 hq => ?_)
              obtain ⟨hr, e1, e2⟩ := hq
              cases hr
              rw [e1, e2]
              clear e1 e2
              show q_Ev l G m_md_create 7 165 0 0 92 [some (.ref (42)), some (.int (nI (j))), some (.int (nI (p))), some (.int (d)), some (.int (nI (0))), none, none] [.int (nI ((p - 1) / 6))] (md_put h (((nI (0)), (some r), ep, tm), ((L.1), (L.2.1), (L.2.2.1), (L.2.2.2)), ((S.1), (S.2.1), (S.2.2.1), (S.2.2.2.1), (S.2.2.2.2)), ((C.1), (C.2.1), (C.2.2.1), (C.2.2.2.1), (C.2.2.2.2)), ((W.1), (W.2.1), (W.2.2.1), (W.2.2.2)), (((grT L r (S.1 r) T).1), ((grT L r (S.1 r) T).2.1), ((grT L r (S.1 r) T).2.2.1), ((grT L r (S.1 r) T).2.2.2.1), ((grT L r (S.1 r) T).2.2.2.2)))) N _
              show q_Ev l G m_md_create 7 165 0 0 92 [some (.ref (42)), some (.int (nI (j))), some (.int (nI (p))), some (.int (d)), some (.int (nI (0))), none, none] [.int (nI ((p - 1) / 6))] (md_put h (((nI (0)), (some r), ep, tm), ((L.1), (L.2.1), (L.2.2.1), (L.2.2.2)), ((S.1), (S.2.1), (S.2.2.1), (S.2.2.2.1), (S.2.2.2.2)), ((C.1), (C.2.1), (C.2.2.1), (C.2.2.2.1), (C.2.2.2.2)), ((W.1), (W.2.1), (W.2.2.1), (W.2.2.2)), (((grT L r (S.1 r) T).1), ((grT L r (S.1 r) T).2.1), ((grT L r (S.1 r) T).2.2.1), ((grT L r (S.1 r) T).2.2.2.1), ((grT L r (S.1 r) T).2.2.2.2)))) N _
              refine e_goto (pc := 92) (tgt := 96) d_md_create_92 (by decide) ?_
              refine e_istore (pc := 96) d_md_create_96 (by decide) ?_
              refine e_aload_n (pc := 98) d_md_create_98 rfl ?_
              refine e_get (pc := 99) d_md_create_99 fl_md_69 md_g42 rfl ?_
              refine e_iload (pc := 102) d_md_create_102 rfl ?_
              refine e_zaldN (pc := 104) d_md_create_104 (f := ((grT L r (S.1 r) T).1)) md_g61 (by omega) (by decide) ?_
              have hup : ((p - 1) / 6) < 43 := by omega
              refine e_ifB_ne (pc := 105) (tgt := 114) d_md_create_105 (by decide) (fun ct => ?_) (fun ct => ?_)
              · have hnu := hnx r rfl ((p - 1) / 6) hup ct
                refine e_aload_n (pc := 114) d_md_create_114 rfl ?_
                refine e_get (pc := 115) d_md_create_115 fl_md_81 md_g42 rfl ?_
                refine e_iload (pc := 118) d_md_create_118 rfl ?_
                refine e_ialdN (pc := 120) d_md_create_120 (f := ((grT L r (S.1 r) T).2.2.2.2)) md_g65 (by omega) (by decide) ?_
                refine e_if_ge (pc := 121) (tgt := 142) d_md_create_121 (by decide) (fun co => ?_) (fun co => ?_)
                · refine e_aload_n (pc := 142) d_md_create_142 rfl ?_
                  refine e_iconst (pc := 143) d_md_create_143 (v := (nI (4))) rfl ?_
                  refine e_callV (As := [.int (nI (4))]) (st := []) (cc2 := 0) (ss2 := 0) (pc := 144) d_md_create_144 rfl cv_md_149 md_g42 rfl (c_md_fail htr) rfl (by decide) (by decide) (by omega) (by omega) (Nat.le_of_ble_eq_true rfl) (fun _ _ _ hq => nomatch hq.1) (fun r h2 N2 hq => ?_)
                  obtain ⟨hr, e1, e2⟩ := hq
                  cases hr
                  rw [e1, e2]
                  clear e1 e2
                  show q_Ev l G m_md_create 7 165 0 0 147 [some (.ref (42)), some (.int (nI (j))), some (.int (nI (p))), some (.int (d)), some (.int (nI (0))), some (.int (nI ((p - 1) / 6))), none] [.int (nI (0))] _ N _
                  exact e_iret (pc := 147) d_md_create_147 rfl (by rw [hr0]; unfold m_create; rw [if_pos ⟨hs1, hf1, Or.inr ⟨show _ by decide, hq1⟩⟩, nT_n (show j < 2 ^ 31 by omega), if_pos c1, if_neg (show ¬ 2 ≤ nT (nI 0) by decide), nT_n (show p < 2 ^ 31 by omega), if_pos (show nT (nI 0) % 2 = 0 by decide), eP, m_cr, if_pos ct, if_pos (Or.inl co)]; exact ⟨rfl, rfl, rfl⟩)
                · refine e_iload (pc := 124) d_md_create_124 rfl ?_
                  refine e_iconst (pc := 126) d_md_create_126 (v := (nI (1))) rfl ?_
                  refine e_icmp_leN (pc := 127) (tgt := 148) d_md_create_127 (by decide) (by decide) (by decide) (fun _ => ?_) (fun c => absurd c (by decide))
                  refine e_iload (pc := 148) d_md_create_148 rfl ?_
                  refine e_iconst (pc := 150) d_md_create_150 (v := (nI (2))) rfl ?_
                  refine e_icmp_geN (pc := 151) (tgt := 158) d_md_create_151 (by decide) (by decide) (by decide) (fun c => absurd c (by decide)) (fun _ => ?_)
                  have hpp : p < 259 := by omega
                  refine e_iload_n (pc := 154) d_md_create_154 rfl ?_
                  refine e_goto (pc := 155) (tgt := 172) d_md_create_155 (by decide) ?_
                  refine e_istore (pc := 172) d_md_create_172 (by decide) ?_
                  refine e_aload_n (pc := 174) d_md_create_174 rfl ?_
                  refine e_get (pc := 175) d_md_create_175 fl_md_69 md_g42 rfl ?_
                  refine e_iload (pc := 178) d_md_create_178 rfl ?_
                  refine e_zaldN (pc := 180) d_md_create_180 (f := ((grT L r (S.1 r) T).1)) md_g61 (by omega) (by decide) ?_
                  refine e_ifB_eq (pc := 181) (tgt := 190) d_md_create_181 (by decide) (fun cm => ?_) (fun cm => ?_)
                  · refine e_aload_n (pc := 190) d_md_create_190 rfl ?_
                    refine e_get (pc := 191) d_md_create_191 fl_md_22 md_g42 rfl ?_
                    refine e_aload_n (pc := 194) d_md_create_194 rfl ?_
                    refine e_get (pc := 195) d_md_create_195 fl_md_105 md_g42 rfl ?_
                    refine e_naldN (pc := 198) d_md_create_198 (f := (S.1)) md_g47 (by omega) (by decide) ?_
                    refine e_bipush (pc := 199) d_md_create_199 (v := (nI (60))) rfl ?_
                    refine e_icmp_ltN (pc := 201) (tgt := 210) d_md_create_201 (by decide) (by omega) (by decide) (fun c60 => ?_) (fun c60 => ?_)
                    · refine e_aload_n (pc := 210) d_md_create_210 rfl ?_
                      refine e_iload (pc := 211) d_md_create_211 rfl ?_
                      refine e_iconst (pc := 213) d_md_create_213 (v := (nI (2))) rfl ?_
                      refine e_icmp_geN (pc := 214) (tgt := 221) d_md_create_214 (by decide) (by decide) (by decide) (fun c => absurd c (by decide)) (fun _ => ?_)
                      refine e_iconst (pc := 217) d_md_create_217 (v := (nI (0))) rfl ?_
                      refine e_goto (pc := 218) (tgt := 222) d_md_create_218 (by decide) ?_
                      refine e_iload (pc := 222) d_md_create_222 rfl ?_
                      refine e_iload_n (pc := 224) d_md_create_224 rfl ?_
                      refine e_iload (pc := 225) d_md_create_225 rfl ?_
                      refine e_iconst (pc := 227) d_md_create_227 (v := (nI (2))) rfl ?_
                      refine e_iremN (pc := 228) d_md_create_228 (by omega) (by decide) (by decide) ?_
                      refine e_iconst (pc := 229) d_md_create_229 (v := (nI (1))) rfl ?_
                      refine e_icmp_neN (pc := 230) (tgt := 237) d_md_create_230 (by decide) (by decide) (by decide) (fun _ => ?_) (fun c => absurd c (by decide))
                      refine e_iconst (pc := 237) d_md_create_237 (v := (-1)) rfl ?_
                      have hx9 : mEx (0, p, d, -1) := ⟨show (0 : Nat) ≤ 4 by decide, show p < 259 by omega, fun z => show 1 ≤ p by omega⟩
                      refine e_callV (As := [.int (nI (0)), .int (nI (p)), .int (d), .int (-1)]) (st := []) (cc2 := 0) (ss2 := 0) (pc := 238) d_md_create_238 rfl cv_md_134 md_g42 rfl (c_md_propose (n := n) htr (show n < 80 by omega) hr hO.2.1 hO.2.2.1 hO.2.2.2 hx9) rfl (by decide) (by decide) (by omega) (by omega) (Nat.le_of_ble_eq_true rfl) (fun _ _ _ hq => nomatch hq.1) (fun r h2 N2 hq => ?_)
                      obtain ⟨hr, e1, e2⟩ := hq
                      cases hr
                      rw [e1, e2]
                      clear e1 e2
                      show q_Ev l G m_md_create 7 165 0 0 241 [some (.ref (42)), some (.int (nI (j))), some (.int (nI (p))), some (.int (d)), some (.int (nI (0))), some (.int (nI ((p - 1) / 6))), some (.int (nI (p)))] [] _ N _
                      obtain ⟨MX, hMX⟩ : ∃ M, M = prM (0, p, d, -1) ((nI 0, some r, ep, tm), L, S, C, W, (grT L r (S.1 r) T)) := ⟨_, rfl⟩
                      refine q_Ev.hp (h1 := md_put h MX) (show md_put h MX = md_put h (prM (0, p, d, -1) ((nI 0, some r, ep, tm), L, S, C, W, (grT L r (S.1 r) T))) from congrArg _ hMX) ?_
                      have hOX : mOK (n + 1) MX := by rw [hMX]; exact (prM_ok (M := ((nI 0, some r, ep, tm), L, S, C, W, (grT L r (S.1 r) T))) ⟨hO.1, hO.2.1, hO.2.2.1, hO.2.2.2⟩ (by omega) hx9).1
                      have eX : ∀ c, m_fa c (prM (0, p, d, -1) ((fa, some r, ep, tm), L, S, C, W, (grT L r (S.1 r) T))) = m_fa c MX := fun c => by rw [hMX, prM_fa, prM_fa]
                      have eQ : m_qr (prM (0, p, d, -1) ((fa, some r, ep, tm), L, S, C, W, (grT L r (S.1 r) T))) = m_qr MX := by rw [hMX]; rfl
                      have eF : m_fa (nI 0) MX = MX := by rw [hMX]; rfl
                      show q_Ev l G m_md_create 7 165 0 0 241 [some (.ref (42)), some (.int (nI (j))), some (.int (nI (p))), some (.int (d)), some (.int (nI (0))), some (.int (nI ((p - 1) / 6))), some (.int (nI (p)))] [] (md_put h MX) N _
                      refine e_aload_n (pc := 241) d_md_create_241 rfl ?_
                      refine e_callV (As := []) (st := []) (cc2 := 0) (ss2 := 0) (pc := 242) d_md_create_242 rfl cv_md_118 md_g42 rfl (c_md_quorum htr hOX.1) rfl (by decide) (by decide) (by omega) (by omega) (Nat.le_of_ble_eq_true rfl) (fun _ _ _ hq => nomatch hq.1) (fun r h2 N2 hq => ?_)
                      obtain ⟨hr, e1, e2⟩ := hq
                      cases hr
                      rw [e1, e2]
                      clear e1 e2
                      show q_Ev l G m_md_create 7 165 0 0 245 [some (.ref (42)), some (.int (nI (j))), some (.int (nI (p))), some (.int (d)), some (.int (nI (0))), some (.int (nI ((p - 1) / 6))), some (.int (nI (p)))] [.int (bI (m_qr MX))] (md_put h MX) N _
                      refine e_ifB_eq (pc := 245) (tgt := 257) d_md_create_245 (by decide) (fun cq => ?_) (fun cq => ?_)
                      · refine e_aload_n (pc := 257) d_md_create_257 rfl ?_
                        refine e_iconst (pc := 258) d_md_create_258 (v := (nI (2))) rfl ?_
                        refine e_callV (As := [.int (nI (2))]) (st := []) (cc2 := 0) (ss2 := 0) (pc := 259) d_md_create_259 rfl cv_md_149 md_g42 rfl (c_md_fail htr) rfl (by decide) (by decide) (by omega) (by omega) (Nat.le_of_ble_eq_true rfl) (fun _ _ _ hq => nomatch hq.1) (fun r h2 N2 hq => ?_)
                        obtain ⟨hr, e1, e2⟩ := hq
                        cases hr
                        rw [e1, e2]
                        clear e1 e2
                        show q_Ev l G m_md_create 7 165 0 0 262 [some (.ref (42)), some (.int (nI (j))), some (.int (nI (p))), some (.int (d)), some (.int (nI (0))), some (.int (nI ((p - 1) / 6))), some (.int (nI (p)))] [.int (nI (0))] _ N _
                        exact e_iret (pc := 262) d_md_create_262 rfl (by rw [hr0]; unfold m_create; rw [if_pos ⟨hs1, hf1, Or.inr ⟨show _ by decide, hq1⟩⟩, nT_n (show j < 2 ^ 31 by omega), if_pos c1, if_neg (show ¬ 2 ≤ nT (nI 0) by decide), nT_n (show p < 2 ^ 31 by omega), if_pos (show nT (nI 0) % 2 = 0 by decide), eP, m_cr, if_pos ct, if_neg (fun z => z.elim co (fun y => absurd y.1 (by decide))), if_neg (fun z => absurd (cm.symm.trans z) (by decide)), m_prop_s, if_neg (show ¬ 60 ≤ S.1 r by omega), if_neg (by rw [eQ, cq]; decide)]; unfold m_F; rw [eX]; exact ⟨rfl, rfl, rfl⟩)
                      · refine e_aload_n (pc := 248) d_md_create_248 rfl ?_
                        refine e_iload (pc := 249) d_md_create_249 rfl ?_
                        refine e_callV (As := [.int (nI (p))]) (st := []) (cc2 := 0) (ss2 := 0) (pc := 251) d_md_create_251 rfl cv_md_155 md_g42 rfl (c_md_end (A := MX.1) (L := MX.2.1) (S := MX.2.2.1) (C := MX.2.2.2.1) (W := MX.2.2.2.2.1) (T := MX.2.2.2.2.2) htr (show n + 1 ≤ 76 by omega) hOX) rfl (by decide) (by decide) (by omega) (by omega) (Nat.le_of_ble_eq_true rfl) (fun _ _ _ hq => nomatch hq.1) (fun r h2 N2 hq => ?_)
                        obtain ⟨hr, e1, e2⟩ := hq
                        cases hr
                        rw [e1, e2]
                        clear e1 e2
                        show q_Ev l G m_md_create 7 165 0 0 254 [some (.ref (42)), some (.int (nI (j))), some (.int (nI (p))), some (.int (d)), some (.int (nI (0))), some (.int (nI ((p - 1) / 6))), some (.int (nI (p)))] [.int (nI (p))] _ N _
                        refine e_goto (pc := 254) (tgt := 262) d_md_create_254 (by decide) ?_
                        exact e_iret (pc := 262) d_md_create_262 rfl (by rw [hr0]; unfold m_create; rw [if_pos ⟨hs1, hf1, Or.inr ⟨show _ by decide, hq1⟩⟩, nT_n (show j < 2 ^ 31 by omega), if_pos c1, if_neg (show ¬ 2 ≤ nT (nI 0) by decide), nT_n (show p < 2 ^ 31 by omega), if_pos (show nT (nI 0) % 2 = 0 by decide), eP, m_cr, if_pos ct, if_neg (fun z => z.elim co (fun y => absurd y.1 (by decide))), if_neg (fun z => absurd (cm.symm.trans z) (by decide)), m_prop_s, if_neg (show ¬ 60 ≤ S.1 r by omega), if_pos (by rw [eQ, cq])]; unfold m_E; rw [eX, eF]; exact ⟨rfl, rfl, rfl⟩)
                    · refine e_aload_n (pc := 204) d_md_create_204 rfl ?_
                      refine e_iconst (pc := 205) d_md_create_205 (v := (nI (2))) rfl ?_
                      refine e_callV (As := [.int (nI (2))]) (st := []) (cc2 := 0) (ss2 := 0) (pc := 206) d_md_create_206 rfl cv_md_149 md_g42 rfl (c_md_fail htr) rfl (by decide) (by decide) (by omega) (by omega) (Nat.le_of_ble_eq_true rfl) (fun _ _ _ hq => nomatch hq.1) (fun r h2 N2 hq => ?_)
                      obtain ⟨hr, e1, e2⟩ := hq
                      cases hr
                      rw [e1, e2]
                      clear e1 e2
                      show q_Ev l G m_md_create 7 165 0 0 209 [some (.ref (42)), some (.int (nI (j))), some (.int (nI (p))), some (.int (d)), some (.int (nI (0))), some (.int (nI ((p - 1) / 6))), some (.int (nI (p)))] [.int (nI (0))] _ N _
                      exact e_iret (pc := 209) d_md_create_209 rfl (by rw [hr0]; unfold m_create; rw [if_pos ⟨hs1, hf1, Or.inr ⟨show _ by decide, hq1⟩⟩, nT_n (show j < 2 ^ 31 by omega), if_pos c1, if_neg (show ¬ 2 ≤ nT (nI 0) by decide), nT_n (show p < 2 ^ 31 by omega), if_pos (show nT (nI 0) % 2 = 0 by decide), eP, m_cr, if_pos ct, if_neg (fun z => z.elim co (fun y => absurd y.1 (by decide))), if_neg (fun z => absurd (cm.symm.trans z) (by decide)), m_prop_s, if_pos c60]; exact ⟨rfl, rfl, rfl⟩)
                  · refine e_aload_n (pc := 184) d_md_create_184 rfl ?_
                    refine e_iconst (pc := 185) d_md_create_185 (v := (nI (5))) rfl ?_
                    refine e_callV (As := [.int (nI (5))]) (st := []) (cc2 := 0) (ss2 := 0) (pc := 186) d_md_create_186 rfl cv_md_149 md_g42 rfl (c_md_fail htr) rfl (by decide) (by decide) (by omega) (by omega) (Nat.le_of_ble_eq_true rfl) (fun _ _ _ hq => nomatch hq.1) (fun r h2 N2 hq => ?_)
                    obtain ⟨hr, e1, e2⟩ := hq
                    cases hr
                    rw [e1, e2]
                    clear e1 e2
                    show q_Ev l G m_md_create 7 165 0 0 189 [some (.ref (42)), some (.int (nI (j))), some (.int (nI (p))), some (.int (d)), some (.int (nI (0))), some (.int (nI ((p - 1) / 6))), some (.int (nI (p)))] [.int (nI (0))] _ N _
                    exact e_iret (pc := 189) d_md_create_189 rfl (by rw [hr0]; unfold m_create; rw [if_pos ⟨hs1, hf1, Or.inr ⟨show _ by decide, hq1⟩⟩, nT_n (show j < 2 ^ 31 by omega), if_pos c1, if_neg (show ¬ 2 ≤ nT (nI 0) by decide), nT_n (show p < 2 ^ 31 by omega), if_pos (show nT (nI 0) % 2 = 0 by decide), eP, m_cr, if_pos ct, if_neg (fun z => z.elim co (fun y => absurd y.1 (by decide))), if_pos cm]; exact ⟨rfl, rfl, rfl⟩)
              · refine e_aload_n (pc := 108) d_md_create_108 rfl ?_
                refine e_iconst (pc := 109) d_md_create_109 (v := (nI (3))) rfl ?_
                refine e_callV (As := [.int (nI (3))]) (st := []) (cc2 := 0) (ss2 := 0) (pc := 110) d_md_create_110 rfl cv_md_149 md_g42 rfl (c_md_fail htr) rfl (by decide) (by decide) (by omega) (by omega) (Nat.le_of_ble_eq_true rfl) (fun _ _ _ hq => nomatch hq.1) (fun r h2 N2 hq => ?_)
                obtain ⟨hr, e1, e2⟩ := hq
                cases hr
                rw [e1, e2]
                clear e1 e2
                show q_Ev l G m_md_create 7 165 0 0 113 [some (.ref (42)), some (.int (nI (j))), some (.int (nI (p))), some (.int (d)), some (.int (nI (0))), some (.int (nI ((p - 1) / 6))), none] [.int (nI (0))] _ N _
                exact e_iret (pc := 113) d_md_create_113 rfl (by rw [hr0]; unfold m_create; rw [if_pos ⟨hs1, hf1, Or.inr ⟨show _ by decide, hq1⟩⟩, nT_n (show j < 2 ^ 31 by omega), if_pos c1, if_neg (show ¬ 2 ≤ nT (nI 0) by decide), nT_n (show p < 2 ^ 31 by omega), if_pos (show nT (nI 0) % 2 = 0 by decide), eP, m_cr, if_neg (fun z => absurd (ct.symm.trans z) (by decide))]; exact ⟨rfl, rfl, rfl⟩)
            · refine e_aload_n (pc := 71) d_md_create_71 rfl ?_
              refine e_iconst (pc := 72) d_md_create_72 (v := (nI (2))) rfl ?_
              refine e_callV (As := [.int (nI (2))]) (st := []) (cc2 := 0) (ss2 := 0) (pc := 73) d_md_create_73 rfl cv_md_149 md_g42 rfl (c_md_fail htr) rfl (by decide) (by decide) (by omega) (by omega) (Nat.le_of_ble_eq_true rfl) (fun _ _ _ hq => nomatch hq.1) (fun r h2 N2 hq => ?_)
              obtain ⟨hr, e1, e2⟩ := hq
              cases hr
              rw [e1, e2]
              clear e1 e2
              show q_Ev l G m_md_create 7 165 0 0 76 [some (.ref (42)), some (.int (nI (j))), some (.int (nI (p))), some (.int (d)), some (.int (nI (0))), none, none] [.int (nI (0))] _ N _
              exact e_iret (pc := 76) d_md_create_76 rfl (by rw [hr0]; unfold m_create; rw [if_pos ⟨hs1, hf1, Or.inr ⟨show _ by decide, hq1⟩⟩, nT_n (show j < 2 ^ 31 by omega), if_neg (fun z => absurd (c1.symm.trans z) (by decide))]; exact ⟨rfl, rfl, rfl⟩)
          · refine e_aload_n (pc := 57) d_md_create_57 rfl ?_
            refine e_iconst (pc := 58) d_md_create_58 (v := (nI (1))) rfl ?_
            refine e_callV (As := [.int (nI (1))]) (st := []) (cc2 := 0) (ss2 := 0) (pc := 59) d_md_create_59 rfl cv_md_149 md_g42 rfl (c_md_fail htr) rfl (by decide) (by decide) (by omega) (by omega) (Nat.le_of_ble_eq_true rfl) (fun _ _ _ hq => nomatch hq.1) (fun r h2 N2 hq => ?_)
            obtain ⟨hr, e1, e2⟩ := hq
            cases hr
            rw [e1, e2]
            clear e1 e2
            show q_Ev l G m_md_create 7 165 0 0 62 [some (.ref (42)), some (.int (nI (j))), some (.int (q)), some (.int (d)), some (.int (nI (0))), none, none] [.int (nI (0))] _ N _
            exact e_iret (pc := 62) d_md_create_62 rfl (by rw [hr0]; unfold m_create; rw [if_neg (fun z => z.2.2.elim (fun y => absurd (show 2 ≤ (0 : Nat) from y.1) (by decide)) (fun y => cb y.2.2))]; exact ⟨rfl, rfl, rfl⟩)
      · have ef : nT (nI 1) = 1 := rfl
        refine e_iload_n (pc := 24) d_md_create_24 rfl ?_
        refine e_iload (pc := 25) d_md_create_25 rfl ?_
        refine e_iconst (pc := 27) d_md_create_27 (v := (nI (2))) rfl ?_
        refine e_icmp_geN (pc := 28) (tgt := 35) d_md_create_28 (by decide) (by decide) (by decide) (fun c => absurd c (by decide)) (fun _ => ?_)
        refine e_iconst (pc := 31) d_md_create_31 (v := (nI (1))) rfl ?_
        refine e_goto (pc := 32) (tgt := 36) d_md_create_32 (by decide) ?_
        refine e_icmp_lt (pc := 36) (tgt := 57) d_md_create_36 (by decide) (fun ca => ?_) (fun ca => ?_)
        · refine e_aload_n (pc := 57) d_md_create_57 rfl ?_
          refine e_iconst (pc := 58) d_md_create_58 (v := (nI (1))) rfl ?_
          refine e_callV (As := [.int (nI (1))]) (st := []) (cc2 := 0) (ss2 := 0) (pc := 59) d_md_create_59 rfl cv_md_149 md_g42 rfl (c_md_fail htr) rfl (by decide) (by decide) (by omega) (by omega) (Nat.le_of_ble_eq_true rfl) (fun _ _ _ hq => nomatch hq.1) (fun r h2 N2 hq => ?_)
          obtain ⟨hr, e1, e2⟩ := hq
          cases hr
          rw [e1, e2]
          clear e1 e2
          show q_Ev l G m_md_create 7 165 0 0 62 [some (.ref (42)), some (.int (nI (j))), some (.int (q)), some (.int (d)), some (.int (nI (1))), none, none] [.int (nI (0))] _ N _
          exact e_iret (pc := 62) d_md_create_62 rfl (by rw [hr0]; unfold m_create; rw [if_neg (fun z => z.2.2.elim (fun y => absurd (show 2 ≤ (1 : Nat) from y.1) (by decide)) (fun y => Int32.not_le.mpr ca y.2.1))]; exact ⟨rfl, rfl, rfl⟩)
        · refine e_iload_n (pc := 39) d_md_create_39 rfl ?_
          refine e_iload (pc := 40) d_md_create_40 rfl ?_
          refine e_iconst (pc := 42) d_md_create_42 (v := (nI (2))) rfl ?_
          refine e_icmp_geN (pc := 43) (tgt := 52) d_md_create_43 (by decide) (by decide) (by decide) (fun c => absurd c (by decide)) (fun _ => ?_)
          refine e_sipush (pc := 46) d_md_create_46 (v := (nI (258))) rfl ?_
          refine e_goto (pc := 49) (tgt := 54) d_md_create_49 (by decide) ?_
          refine e_icmp_le (pc := 54) (tgt := 63) d_md_create_54 (by decide) (fun cb => ?_) (fun cb => ?_)
          · have hq1 : nI 1 ≤ q ∧ q ≤ nI 258 := ⟨Int32.not_lt.mp ca, cb⟩
            obtain ⟨p, ⟨hp1, hp⟩, ep9⟩ := q_of1 (n := 258) (by decide) hq1
            subst ep9
            refine e_aload_n (pc := 63) d_md_create_63 rfl ?_
            refine e_iload_n (pc := 64) d_md_create_64 rfl ?_
            refine e_callV (As := [.int (nI (j))]) (st := []) (cc2 := 0) (ss2 := 0) (pc := 65) d_md_create_65 rfl cv_md_158 md_g42 rfl (c_md_reaches (M := ((nI 0, ld, ep, tm), L, S, C, W, T)) htr hO.1 hj (hO.2.1 j hj)) rfl (by decide) (by decide) (by omega) (by omega) (Nat.le_of_ble_eq_true rfl) (fun _ _ _ hq => nomatch hq.1) (fun r h2 N2 hq => ?_)
            obtain ⟨hr, e1, e2⟩ := hq
            cases hr
            rw [e1, e2]
            clear e1 e2
            show q_Ev l G m_md_create 7 165 0 0 68 [some (.ref (42)), some (.int (nI (j))), some (.int (nI (p))), some (.int (d)), some (.int (nI (1))), none, none] [.int (bI (m_rc ((fa, ld, ep, tm), L, S, C, W, T) j))] (md_put h (((nI (0)), ld, (ep), (tm)), ((L.1), (L.2.1), (L.2.2.1), (L.2.2.2)), ((S.1), (S.2.1), (S.2.2.1), (S.2.2.2.1), (S.2.2.2.2)), ((C.1), (C.2.1), (C.2.2.1), (C.2.2.2.1), (C.2.2.2.2)), ((W.1), (W.2.1), (W.2.2.1), (W.2.2.2)), ((T.1), (T.2.1), (T.2.2.1), (T.2.2.2.1), (T.2.2.2.2)))) N _
            refine e_ifB_ne (pc := 68) (tgt := 77) d_md_create_68 (by decide) (fun c1 => ?_) (fun c1 => ?_)
            · obtain ⟨r, hl⟩ := m_rc_ld c1
              change ld = some r at hl
              subst hl
              have hr := hO.1 r rfl
              have eP : pnM ((fa, some r, ep, tm), L, S, C, W, T) = ((fa, some r, ep, tm), L, S, C, W, (grT L r (S.1 r) T)) := rfl
              have hlr : S.1 r ≤ n := (hO.2.2.2 r hr).1
              show q_Ev l G m_md_create 7 165 0 0 77 [some (.ref (42)), some (.int (nI (j))), some (.int (nI (p))), some (.int (d)), some (.int (nI (1))), none, none] [] (md_put h (((nI (0)), (some r), ep, tm), ((L.1), (L.2.1), (L.2.2.1), (L.2.2.2)), ((S.1), (S.2.1), (S.2.2.1), (S.2.2.2.1), (S.2.2.2.2)), ((C.1), (C.2.1), (C.2.2.1), (C.2.2.2.1), (C.2.2.2.2)), ((W.1), (W.2.1), (W.2.2.1), (W.2.2.2)), ((T.1), (T.2.1), (T.2.2.1), (T.2.2.2.1), (T.2.2.2.2)))) N _
              refine e_aload_n (pc := 77) d_md_create_77 rfl ?_
              refine e_callV (As := []) (st := []) (cc2 := 0) (ss2 := 0) (pc := 78) d_md_create_78 rfl cv_md_128 md_g42 rfl (c_md_planned htr (show n ≤ 80 by omega) hr hO.2.1 hO.2.2.1 hO.2.2.2) rfl (by decide) (by decide) (by omega) (by omega) (Nat.le_of_ble_eq_true rfl) (fun _ _ _ hq => nomatch hq.1) (fun r h2 N2 hq => ?_)
              obtain ⟨hr, e1, e2⟩ := hq
              cases hr
              rw [e1, e2]
              clear e1 e2
              show q_Ev l G m_md_create 7 165 0 0 81 [some (.ref (42)), some (.int (nI (j))), some (.int (nI (p))), some (.int (d)), some (.int (nI (1))), none, none] [] _ N _
              show q_Ev l G m_md_create 7 165 0 0 81 [some (.ref (42)), some (.int (nI (j))), some (.int (nI (p))), some (.int (d)), some (.int (nI (1))), none, none] [] (md_put h (((nI (0)), (some r), ep, tm), ((L.1), (L.2.1), (L.2.2.1), (L.2.2.2)), ((S.1), (S.2.1), (S.2.2.1), (S.2.2.2.1), (S.2.2.2.2)), ((C.1), (C.2.1), (C.2.2.1), (C.2.2.2.1), (C.2.2.2.2)), ((W.1), (W.2.1), (W.2.2.1), (W.2.2.2)), (((grT L r (S.1 r) T).1), ((grT L r (S.1 r) T).2.1), ((grT L r (S.1 r) T).2.2.1), ((grT L r (S.1 r) T).2.2.2.1), ((grT L r (S.1 r) T).2.2.2.2)))) N _
              refine e_iload (pc := 81) d_md_create_81 rfl ?_
              refine e_iconst (pc := 83) d_md_create_83 (v := (nI (2))) rfl ?_
              refine e_icmp_geN (pc := 84) (tgt := 95) d_md_create_84 (by decide) (by decide) (by decide) (fun c => absurd c (by decide)) (fun _ => ?_)
              refine e_aload_n (pc := 87) d_md_create_87 rfl ?_
              refine e_iload_n (pc := 88) d_md_create_88 rfl ?_
              refine e_callV (As := [.int (nI (p))]) (st := []) (cc2 := 0) (ss2 := 0) (pc := 89) d_md_create_89 rfl cv_md_87 md_g42 rfl (c_md_parent htr (show p < 259 by omega)) rfl (by decide) (by decide) (by omega) (by omega) (Nat.le_of_ble_eq_true rfl) (fun _ _ _ hq => nomatch hq.1) (fun r h2 N2 hq => ?_)
              obtain ⟨hr, e1, e2⟩ := hq
              cases hr
              rw [e1, e2]
              clear e1 e2
              show q_Ev l G m_md_create 7 165 0 0 92 [some (.ref (42)), some (.int (nI (j))), some (.int (nI (p))), some (.int (d)), some (.int (nI (1))), none, none] [.int (nI ((p - 1) / 6))] (md_put h (((nI (0)), (some r), ep, tm), ((L.1), (L.2.1), (L.2.2.1), (L.2.2.2)), ((S.1), (S.2.1), (S.2.2.1), (S.2.2.2.1), (S.2.2.2.2)), ((C.1), (C.2.1), (C.2.2.1), (C.2.2.2.1), (C.2.2.2.2)), ((W.1), (W.2.1), (W.2.2.1), (W.2.2.2)), (((grT L r (S.1 r) T).1), ((grT L r (S.1 r) T).2.1), ((grT L r (S.1 r) T).2.2.1), ((grT L r (S.1 r) T).2.2.2.1), ((grT L r (S.1 r) T).2.2.2.2)))) N _
              show q_Ev l G m_md_create 7 165 0 0 92 [some (.ref (42)), some (.int (nI (j))), some (.int (nI (p))), some (.int (d)), some (.int (nI (1))), none, none] [.int (nI ((p - 1) / 6))] (md_put h (((nI (0)), (some r), ep, tm), ((L.1), (L.2.1), (L.2.2.1), (L.2.2.2)), ((S.1), (S.2.1), (S.2.2.1), (S.2.2.2.1), (S.2.2.2.2)), ((C.1), (C.2.1), (C.2.2.1), (C.2.2.2.1), (C.2.2.2.2)), ((W.1), (W.2.1), (W.2.2.1), (W.2.2.2)), (((grT L r (S.1 r) T).1), ((grT L r (S.1 r) T).2.1), ((grT L r (S.1 r) T).2.2.1), ((grT L r (S.1 r) T).2.2.2.1), ((grT L r (S.1 r) T).2.2.2.2)))) N _
              refine e_goto (pc := 92) (tgt := 96) d_md_create_92 (by decide) ?_
              refine e_istore (pc := 96) d_md_create_96 (by decide) ?_
              refine e_aload_n (pc := 98) d_md_create_98 rfl ?_
              refine e_get (pc := 99) d_md_create_99 fl_md_69 md_g42 rfl ?_
              refine e_iload (pc := 102) d_md_create_102 rfl ?_
              refine e_zaldN (pc := 104) d_md_create_104 (f := ((grT L r (S.1 r) T).1)) md_g61 (by omega) (by decide) ?_
              have hup : ((p - 1) / 6) < 43 := by omega
              refine e_ifB_ne (pc := 105) (tgt := 114) d_md_create_105 (by decide) (fun ct => ?_) (fun ct => ?_)
              · have hnu := hnx r rfl ((p - 1) / 6) hup ct
                refine e_aload_n (pc := 114) d_md_create_114 rfl ?_
                refine e_get (pc := 115) d_md_create_115 fl_md_81 md_g42 rfl ?_
                refine e_iload (pc := 118) d_md_create_118 rfl ?_
                refine e_ialdN (pc := 120) d_md_create_120 (f := ((grT L r (S.1 r) T).2.2.2.2)) md_g65 (by omega) (by decide) ?_
                refine e_if_ge (pc := 121) (tgt := 142) d_md_create_121 (by decide) (fun co => ?_) (fun co => ?_)
                · refine e_aload_n (pc := 142) d_md_create_142 rfl ?_
                  refine e_iconst (pc := 143) d_md_create_143 (v := (nI (4))) rfl ?_
                  refine e_callV (As := [.int (nI (4))]) (st := []) (cc2 := 0) (ss2 := 0) (pc := 144) d_md_create_144 rfl cv_md_149 md_g42 rfl (c_md_fail htr) rfl (by decide) (by decide) (by omega) (by omega) (Nat.le_of_ble_eq_true rfl) (fun _ _ _ hq => nomatch hq.1) (fun r h2 N2 hq => ?_)
                  obtain ⟨hr, e1, e2⟩ := hq
                  cases hr
                  rw [e1, e2]
                  clear e1 e2
                  show q_Ev l G m_md_create 7 165 0 0 147 [some (.ref (42)), some (.int (nI (j))), some (.int (nI (p))), some (.int (d)), some (.int (nI (1))), some (.int (nI ((p - 1) / 6))), none] [.int (nI (0))] _ N _
                  exact e_iret (pc := 147) d_md_create_147 rfl (by rw [hr0]; unfold m_create; rw [if_pos ⟨hs1, hf1, Or.inr ⟨show _ by decide, hq1⟩⟩, nT_n (show j < 2 ^ 31 by omega), if_pos c1, if_neg (show ¬ 2 ≤ nT (nI 1) by decide), nT_n (show p < 2 ^ 31 by omega), if_neg (show ¬ nT (nI 1) % 2 = 0 by decide), eP, m_cr, if_pos ct, if_pos (Or.inl co)]; exact ⟨rfl, rfl, rfl⟩)
                · refine e_iload (pc := 124) d_md_create_124 rfl ?_
                  refine e_iconst (pc := 126) d_md_create_126 (v := (nI (1))) rfl ?_
                  refine e_icmp_leN (pc := 127) (tgt := 148) d_md_create_127 (by decide) (by decide) (by decide) (fun _ => ?_) (fun c => absurd c (by decide))
                  refine e_iload (pc := 148) d_md_create_148 rfl ?_
                  refine e_iconst (pc := 150) d_md_create_150 (v := (nI (2))) rfl ?_
                  refine e_icmp_geN (pc := 151) (tgt := 158) d_md_create_151 (by decide) (by decide) (by decide) (fun c => absurd c (by decide)) (fun _ => ?_)
                  have hpp : p < 259 := by omega
                  refine e_iload_n (pc := 154) d_md_create_154 rfl ?_
                  refine e_goto (pc := 155) (tgt := 172) d_md_create_155 (by decide) ?_
                  refine e_istore (pc := 172) d_md_create_172 (by decide) ?_
                  refine e_aload_n (pc := 174) d_md_create_174 rfl ?_
                  refine e_get (pc := 175) d_md_create_175 fl_md_69 md_g42 rfl ?_
                  refine e_iload (pc := 178) d_md_create_178 rfl ?_
                  refine e_zaldN (pc := 180) d_md_create_180 (f := ((grT L r (S.1 r) T).1)) md_g61 (by omega) (by decide) ?_
                  refine e_ifB_eq (pc := 181) (tgt := 190) d_md_create_181 (by decide) (fun cm => ?_) (fun cm => ?_)
                  · refine e_aload_n (pc := 190) d_md_create_190 rfl ?_
                    refine e_get (pc := 191) d_md_create_191 fl_md_22 md_g42 rfl ?_
                    refine e_aload_n (pc := 194) d_md_create_194 rfl ?_
                    refine e_get (pc := 195) d_md_create_195 fl_md_105 md_g42 rfl ?_
                    refine e_naldN (pc := 198) d_md_create_198 (f := (S.1)) md_g47 (by omega) (by decide) ?_
                    refine e_bipush (pc := 199) d_md_create_199 (v := (nI (60))) rfl ?_
                    refine e_icmp_ltN (pc := 201) (tgt := 210) d_md_create_201 (by decide) (by omega) (by decide) (fun c60 => ?_) (fun c60 => ?_)
                    · refine e_aload_n (pc := 210) d_md_create_210 rfl ?_
                      refine e_iload (pc := 211) d_md_create_211 rfl ?_
                      refine e_iconst (pc := 213) d_md_create_213 (v := (nI (2))) rfl ?_
                      refine e_icmp_geN (pc := 214) (tgt := 221) d_md_create_214 (by decide) (by decide) (by decide) (fun c => absurd c (by decide)) (fun _ => ?_)
                      refine e_iconst (pc := 217) d_md_create_217 (v := (nI (0))) rfl ?_
                      refine e_goto (pc := 218) (tgt := 222) d_md_create_218 (by decide) ?_
                      refine e_iload (pc := 222) d_md_create_222 rfl ?_
                      refine e_iload_n (pc := 224) d_md_create_224 rfl ?_
                      refine e_iload (pc := 225) d_md_create_225 rfl ?_
                      refine e_iconst (pc := 227) d_md_create_227 (v := (nI (2))) rfl ?_
                      refine e_iremN (pc := 228) d_md_create_228 (by omega) (by decide) (by decide) ?_
                      refine e_iconst (pc := 229) d_md_create_229 (v := (nI (1))) rfl ?_
                      refine e_icmp_neN (pc := 230) (tgt := 237) d_md_create_230 (by decide) (by decide) (by decide) (fun c => absurd c (by decide)) (fun _ => ?_)
                      refine e_iload_n (pc := 233) d_md_create_233 rfl ?_
                      refine e_goto (pc := 234) (tgt := 238) d_md_create_234 (by decide) ?_
                      have hx9 : mEx (0, p, d, (nI j)) := ⟨show (0 : Nat) ≤ 4 by decide, show p < 259 by omega, fun z => show 1 ≤ p by omega⟩
                      refine e_callV (As := [.int (nI (0)), .int (nI (p)), .int (d), .int (nI (j))]) (st := []) (cc2 := 0) (ss2 := 0) (pc := 238) d_md_create_238 rfl cv_md_134 md_g42 rfl (c_md_propose (n := n) htr (show n < 80 by omega) hr hO.2.1 hO.2.2.1 hO.2.2.2 hx9) rfl (by decide) (by decide) (by omega) (by omega) (Nat.le_of_ble_eq_true rfl) (fun _ _ _ hq => nomatch hq.1) (fun r h2 N2 hq => ?_)
                      obtain ⟨hr, e1, e2⟩ := hq
                      cases hr
                      rw [e1, e2]
                      clear e1 e2
                      show q_Ev l G m_md_create 7 165 0 0 241 [some (.ref (42)), some (.int (nI (j))), some (.int (nI (p))), some (.int (d)), some (.int (nI (1))), some (.int (nI ((p - 1) / 6))), some (.int (nI (p)))] [] _ N _
                      obtain ⟨MX, hMX⟩ : ∃ M, M = prM (0, p, d, (nI j)) ((nI 0, some r, ep, tm), L, S, C, W, (grT L r (S.1 r) T)) := ⟨_, rfl⟩
                      refine q_Ev.hp (h1 := md_put h MX) (show md_put h MX = md_put h (prM (0, p, d, (nI j)) ((nI 0, some r, ep, tm), L, S, C, W, (grT L r (S.1 r) T))) from congrArg _ hMX) ?_
                      have hOX : mOK (n + 1) MX := by rw [hMX]; exact (prM_ok (M := ((nI 0, some r, ep, tm), L, S, C, W, (grT L r (S.1 r) T))) ⟨hO.1, hO.2.1, hO.2.2.1, hO.2.2.2⟩ (by omega) hx9).1
                      have eX : ∀ c, m_fa c (prM (0, p, d, (nI j)) ((fa, some r, ep, tm), L, S, C, W, (grT L r (S.1 r) T))) = m_fa c MX := fun c => by rw [hMX, prM_fa, prM_fa]
                      have eQ : m_qr (prM (0, p, d, (nI j)) ((fa, some r, ep, tm), L, S, C, W, (grT L r (S.1 r) T))) = m_qr MX := by rw [hMX]; rfl
                      have eF : m_fa (nI 0) MX = MX := by rw [hMX]; rfl
                      show q_Ev l G m_md_create 7 165 0 0 241 [some (.ref (42)), some (.int (nI (j))), some (.int (nI (p))), some (.int (d)), some (.int (nI (1))), some (.int (nI ((p - 1) / 6))), some (.int (nI (p)))] [] (md_put h MX) N _
                      refine e_aload_n (pc := 241) d_md_create_241 rfl ?_
                      refine e_callV (As := []) (st := []) (cc2 := 0) (ss2 := 0) (pc := 242) d_md_create_242 rfl cv_md_118 md_g42 rfl (c_md_quorum htr hOX.1) rfl (by decide) (by decide) (by omega) (by omega) (Nat.le_of_ble_eq_true rfl) (fun _ _ _ hq => nomatch hq.1) (fun r h2 N2 hq => ?_)
                      obtain ⟨hr, e1, e2⟩ := hq
                      cases hr
                      rw [e1, e2]
                      clear e1 e2
                      show q_Ev l G m_md_create 7 165 0 0 245 [some (.ref (42)), some (.int (nI (j))), some (.int (nI (p))), some (.int (d)), some (.int (nI (1))), some (.int (nI ((p - 1) / 6))), some (.int (nI (p)))] [.int (bI (m_qr MX))] (md_put h MX) N _
                      refine e_ifB_eq (pc := 245) (tgt := 257) d_md_create_245 (by decide) (fun cq => ?_) (fun cq => ?_)
                      · refine e_aload_n (pc := 257) d_md_create_257 rfl ?_
                        refine e_iconst (pc := 258) d_md_create_258 (v := (nI (2))) rfl ?_
                        refine e_callV (As := [.int (nI (2))]) (st := []) (cc2 := 0) (ss2 := 0) (pc := 259) d_md_create_259 rfl cv_md_149 md_g42 rfl (c_md_fail htr) rfl (by decide) (by decide) (by omega) (by omega) (Nat.le_of_ble_eq_true rfl) (fun _ _ _ hq => nomatch hq.1) (fun r h2 N2 hq => ?_)
                        obtain ⟨hr, e1, e2⟩ := hq
                        cases hr
                        rw [e1, e2]
                        clear e1 e2
                        show q_Ev l G m_md_create 7 165 0 0 262 [some (.ref (42)), some (.int (nI (j))), some (.int (nI (p))), some (.int (d)), some (.int (nI (1))), some (.int (nI ((p - 1) / 6))), some (.int (nI (p)))] [.int (nI (0))] _ N _
                        exact e_iret (pc := 262) d_md_create_262 rfl (by rw [hr0]; unfold m_create; rw [if_pos ⟨hs1, hf1, Or.inr ⟨show _ by decide, hq1⟩⟩, nT_n (show j < 2 ^ 31 by omega), if_pos c1, if_neg (show ¬ 2 ≤ nT (nI 1) by decide), nT_n (show p < 2 ^ 31 by omega), if_neg (show ¬ nT (nI 1) % 2 = 0 by decide), eP, m_cr, if_pos ct, if_neg (fun z => z.elim co (fun y => absurd y.1 (by decide))), if_neg (fun z => absurd (cm.symm.trans z) (by decide)), m_prop_s, if_neg (show ¬ 60 ≤ S.1 r by omega), if_neg (by rw [eQ, cq]; decide)]; unfold m_F; rw [eX]; exact ⟨rfl, rfl, rfl⟩)
                      · refine e_aload_n (pc := 248) d_md_create_248 rfl ?_
                        refine e_iload (pc := 249) d_md_create_249 rfl ?_
                        refine e_callV (As := [.int (nI (p))]) (st := []) (cc2 := 0) (ss2 := 0) (pc := 251) d_md_create_251 rfl cv_md_155 md_g42 rfl (c_md_end (A := MX.1) (L := MX.2.1) (S := MX.2.2.1) (C := MX.2.2.2.1) (W := MX.2.2.2.2.1) (T := MX.2.2.2.2.2) htr (show n + 1 ≤ 76 by omega) hOX) rfl (by decide) (by decide) (by omega) (by omega) (Nat.le_of_ble_eq_true rfl) (fun _ _ _ hq => nomatch hq.1) (fun r h2 N2 hq => ?_)
                        obtain ⟨hr, e1, e2⟩ := hq
                        cases hr
                        rw [e1, e2]
                        clear e1 e2
                        show q_Ev l G m_md_create 7 165 0 0 254 [some (.ref (42)), some (.int (nI (j))), some (.int (nI (p))), some (.int (d)), some (.int (nI (1))), some (.int (nI ((p - 1) / 6))), some (.int (nI (p)))] [.int (nI (p))] _ N _
                        refine e_goto (pc := 254) (tgt := 262) d_md_create_254 (by decide) ?_
                        exact e_iret (pc := 262) d_md_create_262 rfl (by rw [hr0]; unfold m_create; rw [if_pos ⟨hs1, hf1, Or.inr ⟨show _ by decide, hq1⟩⟩, nT_n (show j < 2 ^ 31 by omega), if_pos c1, if_neg (show ¬ 2 ≤ nT (nI 1) by decide), nT_n (show p < 2 ^ 31 by omega), if_neg (show ¬ nT (nI 1) % 2 = 0 by decide), eP, m_cr, if_pos ct, if_neg (fun z => z.elim co (fun y => absurd y.1 (by decide))), if_neg (fun z => absurd (cm.symm.trans z) (by decide)), m_prop_s, if_neg (show ¬ 60 ≤ S.1 r by omega), if_pos (by rw [eQ, cq])]; unfold m_E; rw [eX, eF]; exact ⟨rfl, rfl, rfl⟩)
                    · refine e_aload_n (pc := 204) d_md_create_204 rfl ?_
                      refine e_iconst (pc := 205) d_md_create_205 (v := (nI (2))) rfl ?_
                      refine e_callV (As := [.int (nI (2))]) (st := []) (cc2 := 0) (ss2 := 0) (pc := 206) d_md_create_206 rfl cv_md_149 md_g42 rfl (c_md_fail htr) rfl (by decide) (by decide) (by omega) (by omega) (Nat.le_of_ble_eq_true rfl) (fun _ _ _ hq => nomatch hq.1) (fun r h2 N2 hq => ?_)
                      obtain ⟨hr, e1, e2⟩ := hq
                      cases hr
                      rw [e1, e2]
                      clear e1 e2
                      show q_Ev l G m_md_create 7 165 0 0 209 [some (.ref (42)), some (.int (nI (j))), some (.int (nI (p))), some (.int (d)), some (.int (nI (1))), some (.int (nI ((p - 1) / 6))), some (.int (nI (p)))] [.int (nI (0))] _ N _
                      exact e_iret (pc := 209) d_md_create_209 rfl (by rw [hr0]; unfold m_create; rw [if_pos ⟨hs1, hf1, Or.inr ⟨show _ by decide, hq1⟩⟩, nT_n (show j < 2 ^ 31 by omega), if_pos c1, if_neg (show ¬ 2 ≤ nT (nI 1) by decide), nT_n (show p < 2 ^ 31 by omega), if_neg (show ¬ nT (nI 1) % 2 = 0 by decide), eP, m_cr, if_pos ct, if_neg (fun z => z.elim co (fun y => absurd y.1 (by decide))), if_neg (fun z => absurd (cm.symm.trans z) (by decide)), m_prop_s, if_pos c60]; exact ⟨rfl, rfl, rfl⟩)
                  · refine e_aload_n (pc := 184) d_md_create_184 rfl ?_
                    refine e_iconst (pc := 185) d_md_create_185 (v := (nI (5))) rfl ?_
                    refine e_callV (As := [.int (nI (5))]) (st := []) (cc2 := 0) (ss2 := 0) (pc := 186) d_md_create_186 rfl cv_md_149 md_g42 rfl (c_md_fail htr) rfl (by decide) (by decide) (by omega) (by omega) (Nat.le_of_ble_eq_true rfl) (fun _ _ _ hq => nomatch hq.1) (fun r h2 N2 hq => ?_)
                    obtain ⟨hr, e1, e2⟩ := hq
                    cases hr
                    rw [e1, e2]
                    clear e1 e2
                    show q_Ev l G m_md_create 7 165 0 0 189 [some (.ref (42)), some (.int (nI (j))), some (.int (nI (p))), some (.int (d)), some (.int (nI (1))), some (.int (nI ((p - 1) / 6))), some (.int (nI (p)))] [.int (nI (0))] _ N _
                    exact e_iret (pc := 189) d_md_create_189 rfl (by rw [hr0]; unfold m_create; rw [if_pos ⟨hs1, hf1, Or.inr ⟨show _ by decide, hq1⟩⟩, nT_n (show j < 2 ^ 31 by omega), if_pos c1, if_neg (show ¬ 2 ≤ nT (nI 1) by decide), nT_n (show p < 2 ^ 31 by omega), if_neg (show ¬ nT (nI 1) % 2 = 0 by decide), eP, m_cr, if_pos ct, if_neg (fun z => z.elim co (fun y => absurd y.1 (by decide))), if_pos cm]; exact ⟨rfl, rfl, rfl⟩)
              · refine e_aload_n (pc := 108) d_md_create_108 rfl ?_
                refine e_iconst (pc := 109) d_md_create_109 (v := (nI (3))) rfl ?_
                refine e_callV (As := [.int (nI (3))]) (st := []) (cc2 := 0) (ss2 := 0) (pc := 110) d_md_create_110 rfl cv_md_149 md_g42 rfl (c_md_fail htr) rfl (by decide) (by decide) (by omega) (by omega) (Nat.le_of_ble_eq_true rfl) (fun _ _ _ hq => nomatch hq.1) (fun r h2 N2 hq => ?_)
                obtain ⟨hr, e1, e2⟩ := hq
                cases hr
                rw [e1, e2]
                clear e1 e2
                show q_Ev l G m_md_create 7 165 0 0 113 [some (.ref (42)), some (.int (nI (j))), some (.int (nI (p))), some (.int (d)), some (.int (nI (1))), some (.int (nI ((p - 1) / 6))), none] [.int (nI (0))] _ N _
                exact e_iret (pc := 113) d_md_create_113 rfl (by rw [hr0]; unfold m_create; rw [if_pos ⟨hs1, hf1, Or.inr ⟨show _ by decide, hq1⟩⟩, nT_n (show j < 2 ^ 31 by omega), if_pos c1, if_neg (show ¬ 2 ≤ nT (nI 1) by decide), nT_n (show p < 2 ^ 31 by omega), if_neg (show ¬ nT (nI 1) % 2 = 0 by decide), eP, m_cr, if_neg (fun z => absurd (ct.symm.trans z) (by decide))]; exact ⟨rfl, rfl, rfl⟩)
            · refine e_aload_n (pc := 71) d_md_create_71 rfl ?_
              refine e_iconst (pc := 72) d_md_create_72 (v := (nI (2))) rfl ?_
              refine e_callV (As := [.int (nI (2))]) (st := []) (cc2 := 0) (ss2 := 0) (pc := 73) d_md_create_73 rfl cv_md_149 md_g42 rfl (c_md_fail htr) rfl (by decide) (by decide) (by omega) (by omega) (Nat.le_of_ble_eq_true rfl) (fun _ _ _ hq => nomatch hq.1) (fun r h2 N2 hq => ?_)
              obtain ⟨hr, e1, e2⟩ := hq
              cases hr
              rw [e1, e2]
              clear e1 e2
              show q_Ev l G m_md_create 7 165 0 0 76 [some (.ref (42)), some (.int (nI (j))), some (.int (nI (p))), some (.int (d)), some (.int (nI (1))), none, none] [.int (nI (0))] _ N _
              exact e_iret (pc := 76) d_md_create_76 rfl (by rw [hr0]; unfold m_create; rw [if_pos ⟨hs1, hf1, Or.inr ⟨show _ by decide, hq1⟩⟩, nT_n (show j < 2 ^ 31 by omega), if_neg (fun z => absurd (c1.symm.trans z) (by decide))]; exact ⟨rfl, rfl, rfl⟩)
          · refine e_aload_n (pc := 57) d_md_create_57 rfl ?_
            refine e_iconst (pc := 58) d_md_create_58 (v := (nI (1))) rfl ?_
            refine e_callV (As := [.int (nI (1))]) (st := []) (cc2 := 0) (ss2 := 0) (pc := 59) d_md_create_59 rfl cv_md_149 md_g42 rfl (c_md_fail htr) rfl (by decide) (by decide) (by omega) (by omega) (Nat.le_of_ble_eq_true rfl) (fun _ _ _ hq => nomatch hq.1) (fun r h2 N2 hq => ?_)
            obtain ⟨hr, e1, e2⟩ := hq
            cases hr
            rw [e1, e2]
            clear e1 e2
            show q_Ev l G m_md_create 7 165 0 0 62 [some (.ref (42)), some (.int (nI (j))), some (.int (q)), some (.int (d)), some (.int (nI (1))), none, none] [.int (nI (0))] _ N _
            exact e_iret (pc := 62) d_md_create_62 rfl (by rw [hr0]; unfold m_create; rw [if_neg (fun z => z.2.2.elim (fun y => absurd (show 2 ≤ (1 : Nat) from y.1) (by decide)) (fun y => cb y.2.2))]; exact ⟨rfl, rfl, rfl⟩)
      · have ef : nT (nI 2) = 2 := rfl
        refine e_iload_n (pc := 24) d_md_create_24 rfl ?_
        refine e_iload (pc := 25) d_md_create_25 rfl ?_
        refine e_iconst (pc := 27) d_md_create_27 (v := (nI (2))) rfl ?_
        refine e_icmp_geN (pc := 28) (tgt := 35) d_md_create_28 (by decide) (by decide) (by decide) (fun _ => ?_) (fun c => absurd c (by decide))
        refine e_iconst (pc := 35) d_md_create_35 (v := (nI (0))) rfl ?_
        refine e_icmp_lt (pc := 36) (tgt := 57) d_md_create_36 (by decide) (fun ca => ?_) (fun ca => ?_)
        · refine e_aload_n (pc := 57) d_md_create_57 rfl ?_
          refine e_iconst (pc := 58) d_md_create_58 (v := (nI (1))) rfl ?_
          refine e_callV (As := [.int (nI (1))]) (st := []) (cc2 := 0) (ss2 := 0) (pc := 59) d_md_create_59 rfl cv_md_149 md_g42 rfl (c_md_fail htr) rfl (by decide) (by decide) (by omega) (by omega) (Nat.le_of_ble_eq_true rfl) (fun _ _ _ hq => nomatch hq.1) (fun r h2 N2 hq => ?_)
          obtain ⟨hr, e1, e2⟩ := hq
          cases hr
          rw [e1, e2]
          clear e1 e2
          show q_Ev l G m_md_create 7 165 0 0 62 [some (.ref (42)), some (.int (nI (j))), some (.int (q)), some (.int (d)), some (.int (nI (2))), none, none] [.int (nI (0))] _ N _
          exact e_iret (pc := 62) d_md_create_62 rfl (by rw [hr0]; unfold m_create; rw [if_neg (fun z => z.2.2.elim (fun y => Int32.not_le.mpr ca y.2.1) (fun y => absurd (show (2 : Nat) < 2 from y.1) (by decide)))]; exact ⟨rfl, rfl, rfl⟩)
        · refine e_iload_n (pc := 39) d_md_create_39 rfl ?_
          refine e_iload (pc := 40) d_md_create_40 rfl ?_
          refine e_iconst (pc := 42) d_md_create_42 (v := (nI (2))) rfl ?_
          refine e_icmp_geN (pc := 43) (tgt := 52) d_md_create_43 (by decide) (by decide) (by decide) (fun _ => ?_) (fun c => absurd c (by decide))
          refine e_bipush (pc := 52) d_md_create_52 (v := (nI (42))) rfl ?_
          refine e_icmp_le (pc := 54) (tgt := 63) d_md_create_54 (by decide) (fun cb => ?_) (fun cb => ?_)
          · have hq1 : nI 0 ≤ q ∧ q ≤ nI 42 := ⟨Int32.not_lt.mp ca, cb⟩
            obtain ⟨p, hp, ep9⟩ := q_ofL (n := 42) (by decide) hq1
            subst ep9
            refine e_aload_n (pc := 63) d_md_create_63 rfl ?_
            refine e_iload_n (pc := 64) d_md_create_64 rfl ?_
            refine e_callV (As := [.int (nI (j))]) (st := []) (cc2 := 0) (ss2 := 0) (pc := 65) d_md_create_65 rfl cv_md_158 md_g42 rfl (c_md_reaches (M := ((nI 0, ld, ep, tm), L, S, C, W, T)) htr hO.1 hj (hO.2.1 j hj)) rfl (by decide) (by decide) (by omega) (by omega) (Nat.le_of_ble_eq_true rfl) (fun _ _ _ hq => nomatch hq.1) (fun r h2 N2 hq => ?_)
            obtain ⟨hr, e1, e2⟩ := hq
            cases hr
            rw [e1, e2]
            clear e1 e2
            show q_Ev l G m_md_create 7 165 0 0 68 [some (.ref (42)), some (.int (nI (j))), some (.int (nI (p))), some (.int (d)), some (.int (nI (2))), none, none] [.int (bI (m_rc ((fa, ld, ep, tm), L, S, C, W, T) j))] (md_put h (((nI (0)), ld, (ep), (tm)), ((L.1), (L.2.1), (L.2.2.1), (L.2.2.2)), ((S.1), (S.2.1), (S.2.2.1), (S.2.2.2.1), (S.2.2.2.2)), ((C.1), (C.2.1), (C.2.2.1), (C.2.2.2.1), (C.2.2.2.2)), ((W.1), (W.2.1), (W.2.2.1), (W.2.2.2)), ((T.1), (T.2.1), (T.2.2.1), (T.2.2.2.1), (T.2.2.2.2)))) N _
            refine e_ifB_ne (pc := 68) (tgt := 77) d_md_create_68 (by decide) (fun c1 => ?_) (fun c1 => ?_)
            · obtain ⟨r, hl⟩ := m_rc_ld c1
              change ld = some r at hl
              subst hl
              have hr := hO.1 r rfl
              have eP : pnM ((fa, some r, ep, tm), L, S, C, W, T) = ((fa, some r, ep, tm), L, S, C, W, (grT L r (S.1 r) T)) := rfl
              have hlr : S.1 r ≤ n := (hO.2.2.2 r hr).1
              show q_Ev l G m_md_create 7 165 0 0 77 [some (.ref (42)), some (.int (nI (j))), some (.int (nI (p))), some (.int (d)), some (.int (nI (2))), none, none] [] (md_put h (((nI (0)), (some r), ep, tm), ((L.1), (L.2.1), (L.2.2.1), (L.2.2.2)), ((S.1), (S.2.1), (S.2.2.1), (S.2.2.2.1), (S.2.2.2.2)), ((C.1), (C.2.1), (C.2.2.1), (C.2.2.2.1), (C.2.2.2.2)), ((W.1), (W.2.1), (W.2.2.1), (W.2.2.2)), ((T.1), (T.2.1), (T.2.2.1), (T.2.2.2.1), (T.2.2.2.2)))) N _
              refine e_aload_n (pc := 77) d_md_create_77 rfl ?_
              refine e_callV (As := []) (st := []) (cc2 := 0) (ss2 := 0) (pc := 78) d_md_create_78 rfl cv_md_128 md_g42 rfl (c_md_planned htr (show n ≤ 80 by omega) hr hO.2.1 hO.2.2.1 hO.2.2.2) rfl (by decide) (by decide) (by omega) (by omega) (Nat.le_of_ble_eq_true rfl) (fun _ _ _ hq => nomatch hq.1) (fun r h2 N2 hq => ?_)
              obtain ⟨hr, e1, e2⟩ := hq
              cases hr
              rw [e1, e2]
              clear e1 e2
              show q_Ev l G m_md_create 7 165 0 0 81 [some (.ref (42)), some (.int (nI (j))), some (.int (nI (p))), some (.int (d)), some (.int (nI (2))), none, none] [] _ N _
              show q_Ev l G m_md_create 7 165 0 0 81 [some (.ref (42)), some (.int (nI (j))), some (.int (nI (p))), some (.int (d)), some (.int (nI (2))), none, none] [] (md_put h (((nI (0)), (some r), ep, tm), ((L.1), (L.2.1), (L.2.2.1), (L.2.2.2)), ((S.1), (S.2.1), (S.2.2.1), (S.2.2.2.1), (S.2.2.2.2)), ((C.1), (C.2.1), (C.2.2.1), (C.2.2.2.1), (C.2.2.2.2)), ((W.1), (W.2.1), (W.2.2.1), (W.2.2.2)), (((grT L r (S.1 r) T).1), ((grT L r (S.1 r) T).2.1), ((grT L r (S.1 r) T).2.2.1), ((grT L r (S.1 r) T).2.2.2.1), ((grT L r (S.1 r) T).2.2.2.2)))) N _
              refine e_iload (pc := 81) d_md_create_81 rfl ?_
              refine e_iconst (pc := 83) d_md_create_83 (v := (nI (2))) rfl ?_
              refine e_icmp_geN (pc := 84) (tgt := 95) d_md_create_84 (by decide) (by decide) (by decide) (fun _ => ?_) (fun c => absurd c (by decide))
              refine e_iload_n (pc := 95) d_md_create_95 rfl ?_
              refine e_istore (pc := 96) d_md_create_96 (by decide) ?_
              refine e_aload_n (pc := 98) d_md_create_98 rfl ?_
              refine e_get (pc := 99) d_md_create_99 fl_md_69 md_g42 rfl ?_
              refine e_iload (pc := 102) d_md_create_102 rfl ?_
              refine e_zaldN (pc := 104) d_md_create_104 (f := ((grT L r (S.1 r) T).1)) md_g61 (by omega) (by decide) ?_
              have hup : p < 43 := by omega
              refine e_ifB_ne (pc := 105) (tgt := 114) d_md_create_105 (by decide) (fun ct => ?_) (fun ct => ?_)
              · have hnu := hnx r rfl p hup ct
                refine e_aload_n (pc := 114) d_md_create_114 rfl ?_
                refine e_get (pc := 115) d_md_create_115 fl_md_81 md_g42 rfl ?_
                refine e_iload (pc := 118) d_md_create_118 rfl ?_
                refine e_ialdN (pc := 120) d_md_create_120 (f := ((grT L r (S.1 r) T).2.2.2.2)) md_g65 (by omega) (by decide) ?_
                refine e_if_ge (pc := 121) (tgt := 142) d_md_create_121 (by decide) (fun co => ?_) (fun co => ?_)
                · refine e_aload_n (pc := 142) d_md_create_142 rfl ?_
                  refine e_iconst (pc := 143) d_md_create_143 (v := (nI (4))) rfl ?_
                  refine e_callV (As := [.int (nI (4))]) (st := []) (cc2 := 0) (ss2 := 0) (pc := 144) d_md_create_144 rfl cv_md_149 md_g42 rfl (c_md_fail htr) rfl (by decide) (by decide) (by omega) (by omega) (Nat.le_of_ble_eq_true rfl) (fun _ _ _ hq => nomatch hq.1) (fun r h2 N2 hq => ?_)
                  obtain ⟨hr, e1, e2⟩ := hq
                  cases hr
                  rw [e1, e2]
                  clear e1 e2
                  show q_Ev l G m_md_create 7 165 0 0 147 [some (.ref (42)), some (.int (nI (j))), some (.int (nI (p))), some (.int (d)), some (.int (nI (2))), some (.int (nI (p))), none] [.int (nI (0))] _ N _
                  exact e_iret (pc := 147) d_md_create_147 rfl (by rw [hr0]; unfold m_create; rw [if_pos ⟨hs1, hf1, Or.inl ⟨show _ by decide, hq1⟩⟩, nT_n (show j < 2 ^ 31 by omega), if_pos c1, if_pos (show 2 ≤ nT (nI 2) by decide), nT_n (show p < 2 ^ 31 by omega), if_pos (show nT (nI 2) % 2 = 0 by decide), eP, m_cr, if_pos ct, if_pos (Or.inl co)]; exact ⟨rfl, rfl, rfl⟩)
                · refine e_iload (pc := 124) d_md_create_124 rfl ?_
                  refine e_iconst (pc := 126) d_md_create_126 (v := (nI (1))) rfl ?_
                  refine e_icmp_leN (pc := 127) (tgt := 148) d_md_create_127 (by decide) (by decide) (by decide) (fun c => absurd c (by decide)) (fun _ => ?_)
                  refine e_aload_n (pc := 130) d_md_create_130 rfl ?_
                  refine e_get (pc := 131) d_md_create_131 fl_md_78 md_g42 rfl ?_
                  refine e_iload (pc := 134) d_md_create_134 rfl ?_
                  refine e_naldN (pc := 136) d_md_create_136 (f := ((grT L r (S.1 r) T).2.2.2.1)) md_g64 (by omega) (by decide) ?_
                  refine e_bipush (pc := 137) d_md_create_137 (v := (nI (6))) rfl ?_
                  refine e_icmp_neN (pc := 139) (tgt := 148) d_md_create_139 (by decide) (by omega) (by decide) (fun cn => ?_) (fun cn => ?_)
                  · refine e_iload (pc := 148) d_md_create_148 rfl ?_
                    refine e_iconst (pc := 150) d_md_create_150 (v := (nI (2))) rfl ?_
                    refine e_icmp_geN (pc := 151) (tgt := 158) d_md_create_151 (by decide) (by decide) (by decide) (fun _ => ?_) (fun c => absurd c (by decide))
                    have hpp : 6 * p + (grT L r (S.1 r) T).2.2.2.1 p + 1 < 259 := by omega
                    refine e_bipush (pc := 158) d_md_create_158 (v := (nI (6))) rfl ?_
                    refine e_iload_n (pc := 160) d_md_create_160 rfl ?_
                    refine e_imulN (pc := 161) d_md_create_161  ?_
                    refine e_aload_n (pc := 162) d_md_create_162 rfl ?_
                    refine e_get (pc := 163) d_md_create_163 fl_md_78 md_g42 rfl ?_
                    refine e_iload (pc := 166) d_md_create_166 rfl ?_
                    refine e_naldN (pc := 168) d_md_create_168 (f := ((grT L r (S.1 r) T).2.2.2.1)) md_g64 (by omega) (by decide) ?_
                    refine e_iaddN (pc := 169) d_md_create_169  ?_
                    refine e_iconst (pc := 170) d_md_create_170 (v := (nI (1))) rfl ?_
                    refine e_iaddN (pc := 171) d_md_create_171  ?_
                    refine e_istore (pc := 172) d_md_create_172 (by decide) ?_
                    refine e_aload_n (pc := 174) d_md_create_174 rfl ?_
                    refine e_get (pc := 175) d_md_create_175 fl_md_69 md_g42 rfl ?_
                    refine e_iload (pc := 178) d_md_create_178 rfl ?_
                    refine e_zaldN (pc := 180) d_md_create_180 (f := ((grT L r (S.1 r) T).1)) md_g61 (by omega) (by decide) ?_
                    refine e_ifB_eq (pc := 181) (tgt := 190) d_md_create_181 (by decide) (fun cm => ?_) (fun cm => ?_)
                    · refine e_aload_n (pc := 190) d_md_create_190 rfl ?_
                      refine e_get (pc := 191) d_md_create_191 fl_md_22 md_g42 rfl ?_
                      refine e_aload_n (pc := 194) d_md_create_194 rfl ?_
                      refine e_get (pc := 195) d_md_create_195 fl_md_105 md_g42 rfl ?_
                      refine e_naldN (pc := 198) d_md_create_198 (f := (S.1)) md_g47 (by omega) (by decide) ?_
                      refine e_bipush (pc := 199) d_md_create_199 (v := (nI (60))) rfl ?_
                      refine e_icmp_ltN (pc := 201) (tgt := 210) d_md_create_201 (by decide) (by omega) (by decide) (fun c60 => ?_) (fun c60 => ?_)
                      · refine e_aload_n (pc := 210) d_md_create_210 rfl ?_
                        refine e_iload (pc := 211) d_md_create_211 rfl ?_
                        refine e_iconst (pc := 213) d_md_create_213 (v := (nI (2))) rfl ?_
                        refine e_icmp_geN (pc := 214) (tgt := 221) d_md_create_214 (by decide) (by decide) (by decide) (fun _ => ?_) (fun c => absurd c (by decide))
                        refine e_iconst (pc := 221) d_md_create_221 (v := (nI (1))) rfl ?_
                        refine e_iload (pc := 222) d_md_create_222 rfl ?_
                        refine e_iload_n (pc := 224) d_md_create_224 rfl ?_
                        refine e_iload (pc := 225) d_md_create_225 rfl ?_
                        refine e_iconst (pc := 227) d_md_create_227 (v := (nI (2))) rfl ?_
                        refine e_iremN (pc := 228) d_md_create_228 (by omega) (by decide) (by decide) ?_
                        refine e_iconst (pc := 229) d_md_create_229 (v := (nI (1))) rfl ?_
                        refine e_icmp_neN (pc := 230) (tgt := 237) d_md_create_230 (by decide) (by decide) (by decide) (fun _ => ?_) (fun c => absurd c (by decide))
                        refine e_iconst (pc := 237) d_md_create_237 (v := (-1)) rfl ?_
                        have hx9 : mEx (1, 6 * p + (grT L r (S.1 r) T).2.2.2.1 p + 1, d, -1) := ⟨show (1 : Nat) ≤ 4 by decide, show 6 * p + (grT L r (S.1 r) T).2.2.2.1 p + 1 < 259 by omega, fun z => show 1 ≤ 6 * p + (grT L r (S.1 r) T).2.2.2.1 p + 1 by omega⟩
                        refine e_callV (As := [.int (nI (1)), .int (nI ((((6) * (p)) + ((((grT L r (S.1 r) T).2.2.2.1)) (p))) + (1))), .int (d), .int (-1)]) (st := []) (cc2 := 0) (ss2 := 0) (pc := 238) d_md_create_238 rfl cv_md_134 md_g42 rfl (c_md_propose (n := n) htr (show n < 80 by omega) hr hO.2.1 hO.2.2.1 hO.2.2.2 hx9) rfl (by decide) (by decide) (by omega) (by omega) (Nat.le_of_ble_eq_true rfl) (fun _ _ _ hq => nomatch hq.1) (fun r h2 N2 hq => ?_)
                        obtain ⟨hr, e1, e2⟩ := hq
                        cases hr
                        rw [e1, e2]
                        clear e1 e2
                        show q_Ev l G m_md_create 7 165 0 0 241 [some (.ref (42)), some (.int (nI (j))), some (.int (nI (p))), some (.int (d)), some (.int (nI (2))), some (.int (nI (p))), some (.int (nI ((((6) * (p)) + ((((grT L r (S.1 r) T).2.2.2.1)) (p))) + (1))))] [] _ N _
                        obtain ⟨MX, hMX⟩ : ∃ M, M = prM (1, 6 * p + (grT L r (S.1 r) T).2.2.2.1 p + 1, d, -1) ((nI 0, some r, ep, tm), L, S, C, W, (grT L r (S.1 r) T)) := ⟨_, rfl⟩
                        refine q_Ev.hp (h1 := md_put h MX) (show md_put h MX = md_put h (prM (1, 6 * p + (grT L r (S.1 r) T).2.2.2.1 p + 1, d, -1) ((nI 0, some r, ep, tm), L, S, C, W, (grT L r (S.1 r) T))) from congrArg _ hMX) ?_
                        have hOX : mOK (n + 1) MX := by rw [hMX]; exact (prM_ok (M := ((nI 0, some r, ep, tm), L, S, C, W, (grT L r (S.1 r) T))) ⟨hO.1, hO.2.1, hO.2.2.1, hO.2.2.2⟩ (by omega) hx9).1
                        have eX : ∀ c, m_fa c (prM (1, 6 * p + (grT L r (S.1 r) T).2.2.2.1 p + 1, d, -1) ((fa, some r, ep, tm), L, S, C, W, (grT L r (S.1 r) T))) = m_fa c MX := fun c => by rw [hMX, prM_fa, prM_fa]
                        have eQ : m_qr (prM (1, 6 * p + (grT L r (S.1 r) T).2.2.2.1 p + 1, d, -1) ((fa, some r, ep, tm), L, S, C, W, (grT L r (S.1 r) T))) = m_qr MX := by rw [hMX]; rfl
                        have eF : m_fa (nI 0) MX = MX := by rw [hMX]; rfl
                        show q_Ev l G m_md_create 7 165 0 0 241 [some (.ref (42)), some (.int (nI (j))), some (.int (nI (p))), some (.int (d)), some (.int (nI (2))), some (.int (nI (p))), some (.int (nI ((((6) * (p)) + ((((grT L r (S.1 r) T).2.2.2.1)) (p))) + (1))))] [] (md_put h MX) N _
                        refine e_aload_n (pc := 241) d_md_create_241 rfl ?_
                        refine e_callV (As := []) (st := []) (cc2 := 0) (ss2 := 0) (pc := 242) d_md_create_242 rfl cv_md_118 md_g42 rfl (c_md_quorum htr hOX.1) rfl (by decide) (by decide) (by omega) (by omega) (Nat.le_of_ble_eq_true rfl) (fun _ _ _ hq => nomatch hq.1) (fun r h2 N2 hq => ?_)
                        obtain ⟨hr, e1, e2⟩ := hq
                        cases hr
                        rw [e1, e2]
                        clear e1 e2
                        show q_Ev l G m_md_create 7 165 0 0 245 [some (.ref (42)), some (.int (nI (j))), some (.int (nI (p))), some (.int (d)), some (.int (nI (2))), some (.int (nI (p))), some (.int (nI ((((6) * (p)) + ((((grT L r (S.1 r) T).2.2.2.1)) (p))) + (1))))] [.int (bI (m_qr MX))] (md_put h MX) N _
                        refine e_ifB_eq (pc := 245) (tgt := 257) d_md_create_245 (by decide) (fun cq => ?_) (fun cq => ?_)
                        · refine e_aload_n (pc := 257) d_md_create_257 rfl ?_
                          refine e_iconst (pc := 258) d_md_create_258 (v := (nI (2))) rfl ?_
                          refine e_callV (As := [.int (nI (2))]) (st := []) (cc2 := 0) (ss2 := 0) (pc := 259) d_md_create_259 rfl cv_md_149 md_g42 rfl (c_md_fail htr) rfl (by decide) (by decide) (by omega) (by omega) (Nat.le_of_ble_eq_true rfl) (fun _ _ _ hq => nomatch hq.1) (fun r h2 N2 hq => ?_)
                          obtain ⟨hr, e1, e2⟩ := hq
                          cases hr
                          rw [e1, e2]
                          clear e1 e2
                          show q_Ev l G m_md_create 7 165 0 0 262 [some (.ref (42)), some (.int (nI (j))), some (.int (nI (p))), some (.int (d)), some (.int (nI (2))), some (.int (nI (p))), some (.int (nI ((((6) * (p)) + ((((grT L r (S.1 r) T).2.2.2.1)) (p))) + (1))))] [.int (nI (0))] _ N _
                          exact e_iret (pc := 262) d_md_create_262 rfl (by rw [hr0]; unfold m_create; rw [if_pos ⟨hs1, hf1, Or.inl ⟨show _ by decide, hq1⟩⟩, nT_n (show j < 2 ^ 31 by omega), if_pos c1, if_pos (show 2 ≤ nT (nI 2) by decide), nT_n (show p < 2 ^ 31 by omega), if_pos (show nT (nI 2) % 2 = 0 by decide), eP, m_cr, if_pos ct, if_neg (fun z => z.elim co (fun y => cn y.2)), if_neg (fun z => absurd (cm.symm.trans z) (by decide)), m_prop_s, if_neg (show ¬ 60 ≤ S.1 r by omega), if_neg (by rw [eQ, cq]; decide)]; unfold m_F; rw [eX]; exact ⟨rfl, rfl, rfl⟩)
                        · refine e_aload_n (pc := 248) d_md_create_248 rfl ?_
                          refine e_iload (pc := 249) d_md_create_249 rfl ?_
                          refine e_callV (As := [.int (nI ((((6) * (p)) + ((((grT L r (S.1 r) T).2.2.2.1)) (p))) + (1)))]) (st := []) (cc2 := 0) (ss2 := 0) (pc := 251) d_md_create_251 rfl cv_md_155 md_g42 rfl (c_md_end (A := MX.1) (L := MX.2.1) (S := MX.2.2.1) (C := MX.2.2.2.1) (W := MX.2.2.2.2.1) (T := MX.2.2.2.2.2) htr (show n + 1 ≤ 76 by omega) hOX) rfl (by decide) (by decide) (by omega) (by omega) (Nat.le_of_ble_eq_true rfl) (fun _ _ _ hq => nomatch hq.1) (fun r h2 N2 hq => ?_)
                          obtain ⟨hr, e1, e2⟩ := hq
                          cases hr
                          rw [e1, e2]
                          clear e1 e2
                          show q_Ev l G m_md_create 7 165 0 0 254 [some (.ref (42)), some (.int (nI (j))), some (.int (nI (p))), some (.int (d)), some (.int (nI (2))), some (.int (nI (p))), some (.int (nI ((((6) * (p)) + ((((grT L r (S.1 r) T).2.2.2.1)) (p))) + (1))))] [.int (nI (6 * p + (grT L r (S.1 r) T).2.2.2.1 p + 1))] _ N _
                          refine e_goto (pc := 254) (tgt := 262) d_md_create_254 (by decide) ?_
                          exact e_iret (pc := 262) d_md_create_262 rfl (by rw [hr0]; unfold m_create; rw [if_pos ⟨hs1, hf1, Or.inl ⟨show _ by decide, hq1⟩⟩, nT_n (show j < 2 ^ 31 by omega), if_pos c1, if_pos (show 2 ≤ nT (nI 2) by decide), nT_n (show p < 2 ^ 31 by omega), if_pos (show nT (nI 2) % 2 = 0 by decide), eP, m_cr, if_pos ct, if_neg (fun z => z.elim co (fun y => cn y.2)), if_neg (fun z => absurd (cm.symm.trans z) (by decide)), m_prop_s, if_neg (show ¬ 60 ≤ S.1 r by omega), if_pos (by rw [eQ, cq])]; unfold m_E; rw [eX, eF]; exact ⟨rfl, rfl, rfl⟩)
                      · refine e_aload_n (pc := 204) d_md_create_204 rfl ?_
                        refine e_iconst (pc := 205) d_md_create_205 (v := (nI (2))) rfl ?_
                        refine e_callV (As := [.int (nI (2))]) (st := []) (cc2 := 0) (ss2 := 0) (pc := 206) d_md_create_206 rfl cv_md_149 md_g42 rfl (c_md_fail htr) rfl (by decide) (by decide) (by omega) (by omega) (Nat.le_of_ble_eq_true rfl) (fun _ _ _ hq => nomatch hq.1) (fun r h2 N2 hq => ?_)
                        obtain ⟨hr, e1, e2⟩ := hq
                        cases hr
                        rw [e1, e2]
                        clear e1 e2
                        show q_Ev l G m_md_create 7 165 0 0 209 [some (.ref (42)), some (.int (nI (j))), some (.int (nI (p))), some (.int (d)), some (.int (nI (2))), some (.int (nI (p))), some (.int (nI ((((6) * (p)) + ((((grT L r (S.1 r) T).2.2.2.1)) (p))) + (1))))] [.int (nI (0))] _ N _
                        exact e_iret (pc := 209) d_md_create_209 rfl (by rw [hr0]; unfold m_create; rw [if_pos ⟨hs1, hf1, Or.inl ⟨show _ by decide, hq1⟩⟩, nT_n (show j < 2 ^ 31 by omega), if_pos c1, if_pos (show 2 ≤ nT (nI 2) by decide), nT_n (show p < 2 ^ 31 by omega), if_pos (show nT (nI 2) % 2 = 0 by decide), eP, m_cr, if_pos ct, if_neg (fun z => z.elim co (fun y => cn y.2)), if_neg (fun z => absurd (cm.symm.trans z) (by decide)), m_prop_s, if_pos c60]; exact ⟨rfl, rfl, rfl⟩)
                    · refine e_aload_n (pc := 184) d_md_create_184 rfl ?_
                      refine e_iconst (pc := 185) d_md_create_185 (v := (nI (5))) rfl ?_
                      refine e_callV (As := [.int (nI (5))]) (st := []) (cc2 := 0) (ss2 := 0) (pc := 186) d_md_create_186 rfl cv_md_149 md_g42 rfl (c_md_fail htr) rfl (by decide) (by decide) (by omega) (by omega) (Nat.le_of_ble_eq_true rfl) (fun _ _ _ hq => nomatch hq.1) (fun r h2 N2 hq => ?_)
                      obtain ⟨hr, e1, e2⟩ := hq
                      cases hr
                      rw [e1, e2]
                      clear e1 e2
                      show q_Ev l G m_md_create 7 165 0 0 189 [some (.ref (42)), some (.int (nI (j))), some (.int (nI (p))), some (.int (d)), some (.int (nI (2))), some (.int (nI (p))), some (.int (nI ((((6) * (p)) + ((((grT L r (S.1 r) T).2.2.2.1)) (p))) + (1))))] [.int (nI (0))] _ N _
                      exact e_iret (pc := 189) d_md_create_189 rfl (by rw [hr0]; unfold m_create; rw [if_pos ⟨hs1, hf1, Or.inl ⟨show _ by decide, hq1⟩⟩, nT_n (show j < 2 ^ 31 by omega), if_pos c1, if_pos (show 2 ≤ nT (nI 2) by decide), nT_n (show p < 2 ^ 31 by omega), if_pos (show nT (nI 2) % 2 = 0 by decide), eP, m_cr, if_pos ct, if_neg (fun z => z.elim co (fun y => cn y.2)), if_pos cm]; exact ⟨rfl, rfl, rfl⟩)
                  · refine e_aload_n (pc := 142) d_md_create_142 rfl ?_
                    refine e_iconst (pc := 143) d_md_create_143 (v := (nI (4))) rfl ?_
                    refine e_callV (As := [.int (nI (4))]) (st := []) (cc2 := 0) (ss2 := 0) (pc := 144) d_md_create_144 rfl cv_md_149 md_g42 rfl (c_md_fail htr) rfl (by decide) (by decide) (by omega) (by omega) (Nat.le_of_ble_eq_true rfl) (fun _ _ _ hq => nomatch hq.1) (fun r h2 N2 hq => ?_)
                    obtain ⟨hr, e1, e2⟩ := hq
                    cases hr
                    rw [e1, e2]
                    clear e1 e2
                    show q_Ev l G m_md_create 7 165 0 0 147 [some (.ref (42)), some (.int (nI (j))), some (.int (nI (p))), some (.int (d)), some (.int (nI (2))), some (.int (nI (p))), none] [.int (nI (0))] _ N _
                    exact e_iret (pc := 147) d_md_create_147 rfl (by rw [hr0]; unfold m_create; rw [if_pos ⟨hs1, hf1, Or.inl ⟨show _ by decide, hq1⟩⟩, nT_n (show j < 2 ^ 31 by omega), if_pos c1, if_pos (show 2 ≤ nT (nI 2) by decide), nT_n (show p < 2 ^ 31 by omega), if_pos (show nT (nI 2) % 2 = 0 by decide), eP, m_cr, if_pos ct, if_pos (Or.inr ⟨rfl, cn⟩)]; exact ⟨rfl, rfl, rfl⟩)
              · refine e_aload_n (pc := 108) d_md_create_108 rfl ?_
                refine e_iconst (pc := 109) d_md_create_109 (v := (nI (3))) rfl ?_
                refine e_callV (As := [.int (nI (3))]) (st := []) (cc2 := 0) (ss2 := 0) (pc := 110) d_md_create_110 rfl cv_md_149 md_g42 rfl (c_md_fail htr) rfl (by decide) (by decide) (by omega) (by omega) (Nat.le_of_ble_eq_true rfl) (fun _ _ _ hq => nomatch hq.1) (fun r h2 N2 hq => ?_)
                obtain ⟨hr, e1, e2⟩ := hq
                cases hr
                rw [e1, e2]
                clear e1 e2
                show q_Ev l G m_md_create 7 165 0 0 113 [some (.ref (42)), some (.int (nI (j))), some (.int (nI (p))), some (.int (d)), some (.int (nI (2))), some (.int (nI (p))), none] [.int (nI (0))] _ N _
                exact e_iret (pc := 113) d_md_create_113 rfl (by rw [hr0]; unfold m_create; rw [if_pos ⟨hs1, hf1, Or.inl ⟨show _ by decide, hq1⟩⟩, nT_n (show j < 2 ^ 31 by omega), if_pos c1, if_pos (show 2 ≤ nT (nI 2) by decide), nT_n (show p < 2 ^ 31 by omega), if_pos (show nT (nI 2) % 2 = 0 by decide), eP, m_cr, if_neg (fun z => absurd (ct.symm.trans z) (by decide))]; exact ⟨rfl, rfl, rfl⟩)
            · refine e_aload_n (pc := 71) d_md_create_71 rfl ?_
              refine e_iconst (pc := 72) d_md_create_72 (v := (nI (2))) rfl ?_
              refine e_callV (As := [.int (nI (2))]) (st := []) (cc2 := 0) (ss2 := 0) (pc := 73) d_md_create_73 rfl cv_md_149 md_g42 rfl (c_md_fail htr) rfl (by decide) (by decide) (by omega) (by omega) (Nat.le_of_ble_eq_true rfl) (fun _ _ _ hq => nomatch hq.1) (fun r h2 N2 hq => ?_)
              obtain ⟨hr, e1, e2⟩ := hq
              cases hr
              rw [e1, e2]
              clear e1 e2
              show q_Ev l G m_md_create 7 165 0 0 76 [some (.ref (42)), some (.int (nI (j))), some (.int (nI (p))), some (.int (d)), some (.int (nI (2))), none, none] [.int (nI (0))] _ N _
              exact e_iret (pc := 76) d_md_create_76 rfl (by rw [hr0]; unfold m_create; rw [if_pos ⟨hs1, hf1, Or.inl ⟨show _ by decide, hq1⟩⟩, nT_n (show j < 2 ^ 31 by omega), if_neg (fun z => absurd (c1.symm.trans z) (by decide))]; exact ⟨rfl, rfl, rfl⟩)
          · refine e_aload_n (pc := 57) d_md_create_57 rfl ?_
            refine e_iconst (pc := 58) d_md_create_58 (v := (nI (1))) rfl ?_
            refine e_callV (As := [.int (nI (1))]) (st := []) (cc2 := 0) (ss2 := 0) (pc := 59) d_md_create_59 rfl cv_md_149 md_g42 rfl (c_md_fail htr) rfl (by decide) (by decide) (by omega) (by omega) (Nat.le_of_ble_eq_true rfl) (fun _ _ _ hq => nomatch hq.1) (fun r h2 N2 hq => ?_)
            obtain ⟨hr, e1, e2⟩ := hq
            cases hr
            rw [e1, e2]
            clear e1 e2
            show q_Ev l G m_md_create 7 165 0 0 62 [some (.ref (42)), some (.int (nI (j))), some (.int (q)), some (.int (d)), some (.int (nI (2))), none, none] [.int (nI (0))] _ N _
            exact e_iret (pc := 62) d_md_create_62 rfl (by rw [hr0]; unfold m_create; rw [if_neg (fun z => z.2.2.elim (fun y => cb y.2.2) (fun y => absurd (show (2 : Nat) < 2 from y.1) (by decide)))]; exact ⟨rfl, rfl, rfl⟩)
      · have ef : nT (nI 3) = 3 := rfl
        refine e_iload_n (pc := 24) d_md_create_24 rfl ?_
        refine e_iload (pc := 25) d_md_create_25 rfl ?_
        refine e_iconst (pc := 27) d_md_create_27 (v := (nI (2))) rfl ?_
        refine e_icmp_geN (pc := 28) (tgt := 35) d_md_create_28 (by decide) (by decide) (by decide) (fun _ => ?_) (fun c => absurd c (by decide))
        refine e_iconst (pc := 35) d_md_create_35 (v := (nI (0))) rfl ?_
        refine e_icmp_lt (pc := 36) (tgt := 57) d_md_create_36 (by decide) (fun ca => ?_) (fun ca => ?_)
        · refine e_aload_n (pc := 57) d_md_create_57 rfl ?_
          refine e_iconst (pc := 58) d_md_create_58 (v := (nI (1))) rfl ?_
          refine e_callV (As := [.int (nI (1))]) (st := []) (cc2 := 0) (ss2 := 0) (pc := 59) d_md_create_59 rfl cv_md_149 md_g42 rfl (c_md_fail htr) rfl (by decide) (by decide) (by omega) (by omega) (Nat.le_of_ble_eq_true rfl) (fun _ _ _ hq => nomatch hq.1) (fun r h2 N2 hq => ?_)
          obtain ⟨hr, e1, e2⟩ := hq
          cases hr
          rw [e1, e2]
          clear e1 e2
          show q_Ev l G m_md_create 7 165 0 0 62 [some (.ref (42)), some (.int (nI (j))), some (.int (q)), some (.int (d)), some (.int (nI (3))), none, none] [.int (nI (0))] _ N _
          exact e_iret (pc := 62) d_md_create_62 rfl (by rw [hr0]; unfold m_create; rw [if_neg (fun z => z.2.2.elim (fun y => Int32.not_le.mpr ca y.2.1) (fun y => absurd (show (3 : Nat) < 2 from y.1) (by decide)))]; exact ⟨rfl, rfl, rfl⟩)
        · refine e_iload_n (pc := 39) d_md_create_39 rfl ?_
          refine e_iload (pc := 40) d_md_create_40 rfl ?_
          refine e_iconst (pc := 42) d_md_create_42 (v := (nI (2))) rfl ?_
          refine e_icmp_geN (pc := 43) (tgt := 52) d_md_create_43 (by decide) (by decide) (by decide) (fun _ => ?_) (fun c => absurd c (by decide))
          refine e_bipush (pc := 52) d_md_create_52 (v := (nI (42))) rfl ?_
          refine e_icmp_le (pc := 54) (tgt := 63) d_md_create_54 (by decide) (fun cb => ?_) (fun cb => ?_)
          · have hq1 : nI 0 ≤ q ∧ q ≤ nI 42 := ⟨Int32.not_lt.mp ca, cb⟩
            obtain ⟨p, hp, ep9⟩ := q_ofL (n := 42) (by decide) hq1
            subst ep9
            refine e_aload_n (pc := 63) d_md_create_63 rfl ?_
            refine e_iload_n (pc := 64) d_md_create_64 rfl ?_
            refine e_callV (As := [.int (nI (j))]) (st := []) (cc2 := 0) (ss2 := 0) (pc := 65) d_md_create_65 rfl cv_md_158 md_g42 rfl (c_md_reaches (M := ((nI 0, ld, ep, tm), L, S, C, W, T)) htr hO.1 hj (hO.2.1 j hj)) rfl (by decide) (by decide) (by omega) (by omega) (Nat.le_of_ble_eq_true rfl) (fun _ _ _ hq => nomatch hq.1) (fun r h2 N2 hq => ?_)
            obtain ⟨hr, e1, e2⟩ := hq
            cases hr
            rw [e1, e2]
            clear e1 e2
            show q_Ev l G m_md_create 7 165 0 0 68 [some (.ref (42)), some (.int (nI (j))), some (.int (nI (p))), some (.int (d)), some (.int (nI (3))), none, none] [.int (bI (m_rc ((fa, ld, ep, tm), L, S, C, W, T) j))] (md_put h (((nI (0)), ld, (ep), (tm)), ((L.1), (L.2.1), (L.2.2.1), (L.2.2.2)), ((S.1), (S.2.1), (S.2.2.1), (S.2.2.2.1), (S.2.2.2.2)), ((C.1), (C.2.1), (C.2.2.1), (C.2.2.2.1), (C.2.2.2.2)), ((W.1), (W.2.1), (W.2.2.1), (W.2.2.2)), ((T.1), (T.2.1), (T.2.2.1), (T.2.2.2.1), (T.2.2.2.2)))) N _
            refine e_ifB_ne (pc := 68) (tgt := 77) d_md_create_68 (by decide) (fun c1 => ?_) (fun c1 => ?_)
            · obtain ⟨r, hl⟩ := m_rc_ld c1
              change ld = some r at hl
              subst hl
              have hr := hO.1 r rfl
              have eP : pnM ((fa, some r, ep, tm), L, S, C, W, T) = ((fa, some r, ep, tm), L, S, C, W, (grT L r (S.1 r) T)) := rfl
              have hlr : S.1 r ≤ n := (hO.2.2.2 r hr).1
              show q_Ev l G m_md_create 7 165 0 0 77 [some (.ref (42)), some (.int (nI (j))), some (.int (nI (p))), some (.int (d)), some (.int (nI (3))), none, none] [] (md_put h (((nI (0)), (some r), ep, tm), ((L.1), (L.2.1), (L.2.2.1), (L.2.2.2)), ((S.1), (S.2.1), (S.2.2.1), (S.2.2.2.1), (S.2.2.2.2)), ((C.1), (C.2.1), (C.2.2.1), (C.2.2.2.1), (C.2.2.2.2)), ((W.1), (W.2.1), (W.2.2.1), (W.2.2.2)), ((T.1), (T.2.1), (T.2.2.1), (T.2.2.2.1), (T.2.2.2.2)))) N _
              refine e_aload_n (pc := 77) d_md_create_77 rfl ?_
              refine e_callV (As := []) (st := []) (cc2 := 0) (ss2 := 0) (pc := 78) d_md_create_78 rfl cv_md_128 md_g42 rfl (c_md_planned htr (show n ≤ 80 by omega) hr hO.2.1 hO.2.2.1 hO.2.2.2) rfl (by decide) (by decide) (by omega) (by omega) (Nat.le_of_ble_eq_true rfl) (fun _ _ _ hq => nomatch hq.1) (fun r h2 N2 hq => ?_)
              obtain ⟨hr, e1, e2⟩ := hq
              cases hr
              rw [e1, e2]
              clear e1 e2
              show q_Ev l G m_md_create 7 165 0 0 81 [some (.ref (42)), some (.int (nI (j))), some (.int (nI (p))), some (.int (d)), some (.int (nI (3))), none, none] [] _ N _
              show q_Ev l G m_md_create 7 165 0 0 81 [some (.ref (42)), some (.int (nI (j))), some (.int (nI (p))), some (.int (d)), some (.int (nI (3))), none, none] [] (md_put h (((nI (0)), (some r), ep, tm), ((L.1), (L.2.1), (L.2.2.1), (L.2.2.2)), ((S.1), (S.2.1), (S.2.2.1), (S.2.2.2.1), (S.2.2.2.2)), ((C.1), (C.2.1), (C.2.2.1), (C.2.2.2.1), (C.2.2.2.2)), ((W.1), (W.2.1), (W.2.2.1), (W.2.2.2)), (((grT L r (S.1 r) T).1), ((grT L r (S.1 r) T).2.1), ((grT L r (S.1 r) T).2.2.1), ((grT L r (S.1 r) T).2.2.2.1), ((grT L r (S.1 r) T).2.2.2.2)))) N _
              refine e_iload (pc := 81) d_md_create_81 rfl ?_
              refine e_iconst (pc := 83) d_md_create_83 (v := (nI (2))) rfl ?_
              refine e_icmp_geN (pc := 84) (tgt := 95) d_md_create_84 (by decide) (by decide) (by decide) (fun _ => ?_) (fun c => absurd c (by decide))
              refine e_iload_n (pc := 95) d_md_create_95 rfl ?_
              refine e_istore (pc := 96) d_md_create_96 (by decide) ?_
              refine e_aload_n (pc := 98) d_md_create_98 rfl ?_
              refine e_get (pc := 99) d_md_create_99 fl_md_69 md_g42 rfl ?_
              refine e_iload (pc := 102) d_md_create_102 rfl ?_
              refine e_zaldN (pc := 104) d_md_create_104 (f := ((grT L r (S.1 r) T).1)) md_g61 (by omega) (by decide) ?_
              have hup : p < 43 := by omega
              refine e_ifB_ne (pc := 105) (tgt := 114) d_md_create_105 (by decide) (fun ct => ?_) (fun ct => ?_)
              · have hnu := hnx r rfl p hup ct
                refine e_aload_n (pc := 114) d_md_create_114 rfl ?_
                refine e_get (pc := 115) d_md_create_115 fl_md_81 md_g42 rfl ?_
                refine e_iload (pc := 118) d_md_create_118 rfl ?_
                refine e_ialdN (pc := 120) d_md_create_120 (f := ((grT L r (S.1 r) T).2.2.2.2)) md_g65 (by omega) (by decide) ?_
                refine e_if_ge (pc := 121) (tgt := 142) d_md_create_121 (by decide) (fun co => ?_) (fun co => ?_)
                · refine e_aload_n (pc := 142) d_md_create_142 rfl ?_
                  refine e_iconst (pc := 143) d_md_create_143 (v := (nI (4))) rfl ?_
                  refine e_callV (As := [.int (nI (4))]) (st := []) (cc2 := 0) (ss2 := 0) (pc := 144) d_md_create_144 rfl cv_md_149 md_g42 rfl (c_md_fail htr) rfl (by decide) (by decide) (by omega) (by omega) (Nat.le_of_ble_eq_true rfl) (fun _ _ _ hq => nomatch hq.1) (fun r h2 N2 hq => ?_)
                  obtain ⟨hr, e1, e2⟩ := hq
                  cases hr
                  rw [e1, e2]
                  clear e1 e2
                  show q_Ev l G m_md_create 7 165 0 0 147 [some (.ref (42)), some (.int (nI (j))), some (.int (nI (p))), some (.int (d)), some (.int (nI (3))), some (.int (nI (p))), none] [.int (nI (0))] _ N _
                  exact e_iret (pc := 147) d_md_create_147 rfl (by rw [hr0]; unfold m_create; rw [if_pos ⟨hs1, hf1, Or.inl ⟨show _ by decide, hq1⟩⟩, nT_n (show j < 2 ^ 31 by omega), if_pos c1, if_pos (show 2 ≤ nT (nI 3) by decide), nT_n (show p < 2 ^ 31 by omega), if_neg (show ¬ nT (nI 3) % 2 = 0 by decide), eP, m_cr, if_pos ct, if_pos (Or.inl co)]; exact ⟨rfl, rfl, rfl⟩)
                · refine e_iload (pc := 124) d_md_create_124 rfl ?_
                  refine e_iconst (pc := 126) d_md_create_126 (v := (nI (1))) rfl ?_
                  refine e_icmp_leN (pc := 127) (tgt := 148) d_md_create_127 (by decide) (by decide) (by decide) (fun c => absurd c (by decide)) (fun _ => ?_)
                  refine e_aload_n (pc := 130) d_md_create_130 rfl ?_
                  refine e_get (pc := 131) d_md_create_131 fl_md_78 md_g42 rfl ?_
                  refine e_iload (pc := 134) d_md_create_134 rfl ?_
                  refine e_naldN (pc := 136) d_md_create_136 (f := ((grT L r (S.1 r) T).2.2.2.1)) md_g64 (by omega) (by decide) ?_
                  refine e_bipush (pc := 137) d_md_create_137 (v := (nI (6))) rfl ?_
                  refine e_icmp_neN (pc := 139) (tgt := 148) d_md_create_139 (by decide) (by omega) (by decide) (fun cn => ?_) (fun cn => ?_)
                  · refine e_iload (pc := 148) d_md_create_148 rfl ?_
                    refine e_iconst (pc := 150) d_md_create_150 (v := (nI (2))) rfl ?_
                    refine e_icmp_geN (pc := 151) (tgt := 158) d_md_create_151 (by decide) (by decide) (by decide) (fun _ => ?_) (fun c => absurd c (by decide))
                    have hpp : 6 * p + (grT L r (S.1 r) T).2.2.2.1 p + 1 < 259 := by omega
                    refine e_bipush (pc := 158) d_md_create_158 (v := (nI (6))) rfl ?_
                    refine e_iload_n (pc := 160) d_md_create_160 rfl ?_
                    refine e_imulN (pc := 161) d_md_create_161  ?_
                    refine e_aload_n (pc := 162) d_md_create_162 rfl ?_
                    refine e_get (pc := 163) d_md_create_163 fl_md_78 md_g42 rfl ?_
                    refine e_iload (pc := 166) d_md_create_166 rfl ?_
                    refine e_naldN (pc := 168) d_md_create_168 (f := ((grT L r (S.1 r) T).2.2.2.1)) md_g64 (by omega) (by decide) ?_
                    refine e_iaddN (pc := 169) d_md_create_169  ?_
                    refine e_iconst (pc := 170) d_md_create_170 (v := (nI (1))) rfl ?_
                    refine e_iaddN (pc := 171) d_md_create_171  ?_
                    refine e_istore (pc := 172) d_md_create_172 (by decide) ?_
                    refine e_aload_n (pc := 174) d_md_create_174 rfl ?_
                    refine e_get (pc := 175) d_md_create_175 fl_md_69 md_g42 rfl ?_
                    refine e_iload (pc := 178) d_md_create_178 rfl ?_
                    refine e_zaldN (pc := 180) d_md_create_180 (f := ((grT L r (S.1 r) T).1)) md_g61 (by omega) (by decide) ?_
                    refine e_ifB_eq (pc := 181) (tgt := 190) d_md_create_181 (by decide) (fun cm => ?_) (fun cm => ?_)
                    · refine e_aload_n (pc := 190) d_md_create_190 rfl ?_
                      refine e_get (pc := 191) d_md_create_191 fl_md_22 md_g42 rfl ?_
                      refine e_aload_n (pc := 194) d_md_create_194 rfl ?_
                      refine e_get (pc := 195) d_md_create_195 fl_md_105 md_g42 rfl ?_
                      refine e_naldN (pc := 198) d_md_create_198 (f := (S.1)) md_g47 (by omega) (by decide) ?_
                      refine e_bipush (pc := 199) d_md_create_199 (v := (nI (60))) rfl ?_
                      refine e_icmp_ltN (pc := 201) (tgt := 210) d_md_create_201 (by decide) (by omega) (by decide) (fun c60 => ?_) (fun c60 => ?_)
                      · refine e_aload_n (pc := 210) d_md_create_210 rfl ?_
                        refine e_iload (pc := 211) d_md_create_211 rfl ?_
                        refine e_iconst (pc := 213) d_md_create_213 (v := (nI (2))) rfl ?_
                        refine e_icmp_geN (pc := 214) (tgt := 221) d_md_create_214 (by decide) (by decide) (by decide) (fun _ => ?_) (fun c => absurd c (by decide))
                        refine e_iconst (pc := 221) d_md_create_221 (v := (nI (1))) rfl ?_
                        refine e_iload (pc := 222) d_md_create_222 rfl ?_
                        refine e_iload_n (pc := 224) d_md_create_224 rfl ?_
                        refine e_iload (pc := 225) d_md_create_225 rfl ?_
                        refine e_iconst (pc := 227) d_md_create_227 (v := (nI (2))) rfl ?_
                        refine e_iremN (pc := 228) d_md_create_228 (by omega) (by decide) (by decide) ?_
                        refine e_iconst (pc := 229) d_md_create_229 (v := (nI (1))) rfl ?_
                        refine e_icmp_neN (pc := 230) (tgt := 237) d_md_create_230 (by decide) (by decide) (by decide) (fun c => absurd c (by decide)) (fun _ => ?_)
                        refine e_iload_n (pc := 233) d_md_create_233 rfl ?_
                        refine e_goto (pc := 234) (tgt := 238) d_md_create_234 (by decide) ?_
                        have hx9 : mEx (1, 6 * p + (grT L r (S.1 r) T).2.2.2.1 p + 1, d, (nI j)) := ⟨show (1 : Nat) ≤ 4 by decide, show 6 * p + (grT L r (S.1 r) T).2.2.2.1 p + 1 < 259 by omega, fun z => show 1 ≤ 6 * p + (grT L r (S.1 r) T).2.2.2.1 p + 1 by omega⟩
                        refine e_callV (As := [.int (nI (1)), .int (nI ((((6) * (p)) + ((((grT L r (S.1 r) T).2.2.2.1)) (p))) + (1))), .int (d), .int (nI (j))]) (st := []) (cc2 := 0) (ss2 := 0) (pc := 238) d_md_create_238 rfl cv_md_134 md_g42 rfl (c_md_propose (n := n) htr (show n < 80 by omega) hr hO.2.1 hO.2.2.1 hO.2.2.2 hx9) rfl (by decide) (by decide) (by omega) (by omega) (Nat.le_of_ble_eq_true rfl) (fun _ _ _ hq => nomatch hq.1) (fun r h2 N2 hq => ?_)
                        obtain ⟨hr, e1, e2⟩ := hq
                        cases hr
                        rw [e1, e2]
                        clear e1 e2
                        show q_Ev l G m_md_create 7 165 0 0 241 [some (.ref (42)), some (.int (nI (j))), some (.int (nI (p))), some (.int (d)), some (.int (nI (3))), some (.int (nI (p))), some (.int (nI ((((6) * (p)) + ((((grT L r (S.1 r) T).2.2.2.1)) (p))) + (1))))] [] _ N _
                        obtain ⟨MX, hMX⟩ : ∃ M, M = prM (1, 6 * p + (grT L r (S.1 r) T).2.2.2.1 p + 1, d, (nI j)) ((nI 0, some r, ep, tm), L, S, C, W, (grT L r (S.1 r) T)) := ⟨_, rfl⟩
                        refine q_Ev.hp (h1 := md_put h MX) (show md_put h MX = md_put h (prM (1, 6 * p + (grT L r (S.1 r) T).2.2.2.1 p + 1, d, (nI j)) ((nI 0, some r, ep, tm), L, S, C, W, (grT L r (S.1 r) T))) from congrArg _ hMX) ?_
                        have hOX : mOK (n + 1) MX := by rw [hMX]; exact (prM_ok (M := ((nI 0, some r, ep, tm), L, S, C, W, (grT L r (S.1 r) T))) ⟨hO.1, hO.2.1, hO.2.2.1, hO.2.2.2⟩ (by omega) hx9).1
                        have eX : ∀ c, m_fa c (prM (1, 6 * p + (grT L r (S.1 r) T).2.2.2.1 p + 1, d, (nI j)) ((fa, some r, ep, tm), L, S, C, W, (grT L r (S.1 r) T))) = m_fa c MX := fun c => by rw [hMX, prM_fa, prM_fa]
                        have eQ : m_qr (prM (1, 6 * p + (grT L r (S.1 r) T).2.2.2.1 p + 1, d, (nI j)) ((fa, some r, ep, tm), L, S, C, W, (grT L r (S.1 r) T))) = m_qr MX := by rw [hMX]; rfl
                        have eF : m_fa (nI 0) MX = MX := by rw [hMX]; rfl
                        show q_Ev l G m_md_create 7 165 0 0 241 [some (.ref (42)), some (.int (nI (j))), some (.int (nI (p))), some (.int (d)), some (.int (nI (3))), some (.int (nI (p))), some (.int (nI ((((6) * (p)) + ((((grT L r (S.1 r) T).2.2.2.1)) (p))) + (1))))] [] (md_put h MX) N _
                        refine e_aload_n (pc := 241) d_md_create_241 rfl ?_
                        refine e_callV (As := []) (st := []) (cc2 := 0) (ss2 := 0) (pc := 242) d_md_create_242 rfl cv_md_118 md_g42 rfl (c_md_quorum htr hOX.1) rfl (by decide) (by decide) (by omega) (by omega) (Nat.le_of_ble_eq_true rfl) (fun _ _ _ hq => nomatch hq.1) (fun r h2 N2 hq => ?_)
                        obtain ⟨hr, e1, e2⟩ := hq
                        cases hr
                        rw [e1, e2]
                        clear e1 e2
                        show q_Ev l G m_md_create 7 165 0 0 245 [some (.ref (42)), some (.int (nI (j))), some (.int (nI (p))), some (.int (d)), some (.int (nI (3))), some (.int (nI (p))), some (.int (nI ((((6) * (p)) + ((((grT L r (S.1 r) T).2.2.2.1)) (p))) + (1))))] [.int (bI (m_qr MX))] (md_put h MX) N _
                        refine e_ifB_eq (pc := 245) (tgt := 257) d_md_create_245 (by decide) (fun cq => ?_) (fun cq => ?_)
                        · refine e_aload_n (pc := 257) d_md_create_257 rfl ?_
                          refine e_iconst (pc := 258) d_md_create_258 (v := (nI (2))) rfl ?_
                          refine e_callV (As := [.int (nI (2))]) (st := []) (cc2 := 0) (ss2 := 0) (pc := 259) d_md_create_259 rfl cv_md_149 md_g42 rfl (c_md_fail htr) rfl (by decide) (by decide) (by omega) (by omega) (Nat.le_of_ble_eq_true rfl) (fun _ _ _ hq => nomatch hq.1) (fun r h2 N2 hq => ?_)
                          obtain ⟨hr, e1, e2⟩ := hq
                          cases hr
                          rw [e1, e2]
                          clear e1 e2
                          show q_Ev l G m_md_create 7 165 0 0 262 [some (.ref (42)), some (.int (nI (j))), some (.int (nI (p))), some (.int (d)), some (.int (nI (3))), some (.int (nI (p))), some (.int (nI ((((6) * (p)) + ((((grT L r (S.1 r) T).2.2.2.1)) (p))) + (1))))] [.int (nI (0))] _ N _
                          exact e_iret (pc := 262) d_md_create_262 rfl (by rw [hr0]; unfold m_create; rw [if_pos ⟨hs1, hf1, Or.inl ⟨show _ by decide, hq1⟩⟩, nT_n (show j < 2 ^ 31 by omega), if_pos c1, if_pos (show 2 ≤ nT (nI 3) by decide), nT_n (show p < 2 ^ 31 by omega), if_neg (show ¬ nT (nI 3) % 2 = 0 by decide), eP, m_cr, if_pos ct, if_neg (fun z => z.elim co (fun y => cn y.2)), if_neg (fun z => absurd (cm.symm.trans z) (by decide)), m_prop_s, if_neg (show ¬ 60 ≤ S.1 r by omega), if_neg (by rw [eQ, cq]; decide)]; unfold m_F; rw [eX]; exact ⟨rfl, rfl, rfl⟩)
                        · refine e_aload_n (pc := 248) d_md_create_248 rfl ?_
                          refine e_iload (pc := 249) d_md_create_249 rfl ?_
                          refine e_callV (As := [.int (nI ((((6) * (p)) + ((((grT L r (S.1 r) T).2.2.2.1)) (p))) + (1)))]) (st := []) (cc2 := 0) (ss2 := 0) (pc := 251) d_md_create_251 rfl cv_md_155 md_g42 rfl (c_md_end (A := MX.1) (L := MX.2.1) (S := MX.2.2.1) (C := MX.2.2.2.1) (W := MX.2.2.2.2.1) (T := MX.2.2.2.2.2) htr (show n + 1 ≤ 76 by omega) hOX) rfl (by decide) (by decide) (by omega) (by omega) (Nat.le_of_ble_eq_true rfl) (fun _ _ _ hq => nomatch hq.1) (fun r h2 N2 hq => ?_)
                          obtain ⟨hr, e1, e2⟩ := hq
                          cases hr
                          rw [e1, e2]
                          clear e1 e2
                          show q_Ev l G m_md_create 7 165 0 0 254 [some (.ref (42)), some (.int (nI (j))), some (.int (nI (p))), some (.int (d)), some (.int (nI (3))), some (.int (nI (p))), some (.int (nI ((((6) * (p)) + ((((grT L r (S.1 r) T).2.2.2.1)) (p))) + (1))))] [.int (nI (6 * p + (grT L r (S.1 r) T).2.2.2.1 p + 1))] _ N _
                          refine e_goto (pc := 254) (tgt := 262) d_md_create_254 (by decide) ?_
                          exact e_iret (pc := 262) d_md_create_262 rfl (by rw [hr0]; unfold m_create; rw [if_pos ⟨hs1, hf1, Or.inl ⟨show _ by decide, hq1⟩⟩, nT_n (show j < 2 ^ 31 by omega), if_pos c1, if_pos (show 2 ≤ nT (nI 3) by decide), nT_n (show p < 2 ^ 31 by omega), if_neg (show ¬ nT (nI 3) % 2 = 0 by decide), eP, m_cr, if_pos ct, if_neg (fun z => z.elim co (fun y => cn y.2)), if_neg (fun z => absurd (cm.symm.trans z) (by decide)), m_prop_s, if_neg (show ¬ 60 ≤ S.1 r by omega), if_pos (by rw [eQ, cq])]; unfold m_E; rw [eX, eF]; exact ⟨rfl, rfl, rfl⟩)
                      · refine e_aload_n (pc := 204) d_md_create_204 rfl ?_
                        refine e_iconst (pc := 205) d_md_create_205 (v := (nI (2))) rfl ?_
                        refine e_callV (As := [.int (nI (2))]) (st := []) (cc2 := 0) (ss2 := 0) (pc := 206) d_md_create_206 rfl cv_md_149 md_g42 rfl (c_md_fail htr) rfl (by decide) (by decide) (by omega) (by omega) (Nat.le_of_ble_eq_true rfl) (fun _ _ _ hq => nomatch hq.1) (fun r h2 N2 hq => ?_)
                        obtain ⟨hr, e1, e2⟩ := hq
                        cases hr
                        rw [e1, e2]
                        clear e1 e2
                        show q_Ev l G m_md_create 7 165 0 0 209 [some (.ref (42)), some (.int (nI (j))), some (.int (nI (p))), some (.int (d)), some (.int (nI (3))), some (.int (nI (p))), some (.int (nI ((((6) * (p)) + ((((grT L r (S.1 r) T).2.2.2.1)) (p))) + (1))))] [.int (nI (0))] _ N _
                        exact e_iret (pc := 209) d_md_create_209 rfl (by rw [hr0]; unfold m_create; rw [if_pos ⟨hs1, hf1, Or.inl ⟨show _ by decide, hq1⟩⟩, nT_n (show j < 2 ^ 31 by omega), if_pos c1, if_pos (show 2 ≤ nT (nI 3) by decide), nT_n (show p < 2 ^ 31 by omega), if_neg (show ¬ nT (nI 3) % 2 = 0 by decide), eP, m_cr, if_pos ct, if_neg (fun z => z.elim co (fun y => cn y.2)), if_neg (fun z => absurd (cm.symm.trans z) (by decide)), m_prop_s, if_pos c60]; exact ⟨rfl, rfl, rfl⟩)
                    · refine e_aload_n (pc := 184) d_md_create_184 rfl ?_
                      refine e_iconst (pc := 185) d_md_create_185 (v := (nI (5))) rfl ?_
                      refine e_callV (As := [.int (nI (5))]) (st := []) (cc2 := 0) (ss2 := 0) (pc := 186) d_md_create_186 rfl cv_md_149 md_g42 rfl (c_md_fail htr) rfl (by decide) (by decide) (by omega) (by omega) (Nat.le_of_ble_eq_true rfl) (fun _ _ _ hq => nomatch hq.1) (fun r h2 N2 hq => ?_)
                      obtain ⟨hr, e1, e2⟩ := hq
                      cases hr
                      rw [e1, e2]
                      clear e1 e2
                      show q_Ev l G m_md_create 7 165 0 0 189 [some (.ref (42)), some (.int (nI (j))), some (.int (nI (p))), some (.int (d)), some (.int (nI (3))), some (.int (nI (p))), some (.int (nI ((((6) * (p)) + ((((grT L r (S.1 r) T).2.2.2.1)) (p))) + (1))))] [.int (nI (0))] _ N _
                      exact e_iret (pc := 189) d_md_create_189 rfl (by rw [hr0]; unfold m_create; rw [if_pos ⟨hs1, hf1, Or.inl ⟨show _ by decide, hq1⟩⟩, nT_n (show j < 2 ^ 31 by omega), if_pos c1, if_pos (show 2 ≤ nT (nI 3) by decide), nT_n (show p < 2 ^ 31 by omega), if_neg (show ¬ nT (nI 3) % 2 = 0 by decide), eP, m_cr, if_pos ct, if_neg (fun z => z.elim co (fun y => cn y.2)), if_pos cm]; exact ⟨rfl, rfl, rfl⟩)
                  · refine e_aload_n (pc := 142) d_md_create_142 rfl ?_
                    refine e_iconst (pc := 143) d_md_create_143 (v := (nI (4))) rfl ?_
                    refine e_callV (As := [.int (nI (4))]) (st := []) (cc2 := 0) (ss2 := 0) (pc := 144) d_md_create_144 rfl cv_md_149 md_g42 rfl (c_md_fail htr) rfl (by decide) (by decide) (by omega) (by omega) (Nat.le_of_ble_eq_true rfl) (fun _ _ _ hq => nomatch hq.1) (fun r h2 N2 hq => ?_)
                    obtain ⟨hr, e1, e2⟩ := hq
                    cases hr
                    rw [e1, e2]
                    clear e1 e2
                    show q_Ev l G m_md_create 7 165 0 0 147 [some (.ref (42)), some (.int (nI (j))), some (.int (nI (p))), some (.int (d)), some (.int (nI (3))), some (.int (nI (p))), none] [.int (nI (0))] _ N _
                    exact e_iret (pc := 147) d_md_create_147 rfl (by rw [hr0]; unfold m_create; rw [if_pos ⟨hs1, hf1, Or.inl ⟨show _ by decide, hq1⟩⟩, nT_n (show j < 2 ^ 31 by omega), if_pos c1, if_pos (show 2 ≤ nT (nI 3) by decide), nT_n (show p < 2 ^ 31 by omega), if_neg (show ¬ nT (nI 3) % 2 = 0 by decide), eP, m_cr, if_pos ct, if_pos (Or.inr ⟨rfl, cn⟩)]; exact ⟨rfl, rfl, rfl⟩)
              · refine e_aload_n (pc := 108) d_md_create_108 rfl ?_
                refine e_iconst (pc := 109) d_md_create_109 (v := (nI (3))) rfl ?_
                refine e_callV (As := [.int (nI (3))]) (st := []) (cc2 := 0) (ss2 := 0) (pc := 110) d_md_create_110 rfl cv_md_149 md_g42 rfl (c_md_fail htr) rfl (by decide) (by decide) (by omega) (by omega) (Nat.le_of_ble_eq_true rfl) (fun _ _ _ hq => nomatch hq.1) (fun r h2 N2 hq => ?_)
                obtain ⟨hr, e1, e2⟩ := hq
                cases hr
                rw [e1, e2]
                clear e1 e2
                show q_Ev l G m_md_create 7 165 0 0 113 [some (.ref (42)), some (.int (nI (j))), some (.int (nI (p))), some (.int (d)), some (.int (nI (3))), some (.int (nI (p))), none] [.int (nI (0))] _ N _
                exact e_iret (pc := 113) d_md_create_113 rfl (by rw [hr0]; unfold m_create; rw [if_pos ⟨hs1, hf1, Or.inl ⟨show _ by decide, hq1⟩⟩, nT_n (show j < 2 ^ 31 by omega), if_pos c1, if_pos (show 2 ≤ nT (nI 3) by decide), nT_n (show p < 2 ^ 31 by omega), if_neg (show ¬ nT (nI 3) % 2 = 0 by decide), eP, m_cr, if_neg (fun z => absurd (ct.symm.trans z) (by decide))]; exact ⟨rfl, rfl, rfl⟩)
            · refine e_aload_n (pc := 71) d_md_create_71 rfl ?_
              refine e_iconst (pc := 72) d_md_create_72 (v := (nI (2))) rfl ?_
              refine e_callV (As := [.int (nI (2))]) (st := []) (cc2 := 0) (ss2 := 0) (pc := 73) d_md_create_73 rfl cv_md_149 md_g42 rfl (c_md_fail htr) rfl (by decide) (by decide) (by omega) (by omega) (Nat.le_of_ble_eq_true rfl) (fun _ _ _ hq => nomatch hq.1) (fun r h2 N2 hq => ?_)
              obtain ⟨hr, e1, e2⟩ := hq
              cases hr
              rw [e1, e2]
              clear e1 e2
              show q_Ev l G m_md_create 7 165 0 0 76 [some (.ref (42)), some (.int (nI (j))), some (.int (nI (p))), some (.int (d)), some (.int (nI (3))), none, none] [.int (nI (0))] _ N _
              exact e_iret (pc := 76) d_md_create_76 rfl (by rw [hr0]; unfold m_create; rw [if_pos ⟨hs1, hf1, Or.inl ⟨show _ by decide, hq1⟩⟩, nT_n (show j < 2 ^ 31 by omega), if_neg (fun z => absurd (c1.symm.trans z) (by decide))]; exact ⟨rfl, rfl, rfl⟩)
          · refine e_aload_n (pc := 57) d_md_create_57 rfl ?_
            refine e_iconst (pc := 58) d_md_create_58 (v := (nI (1))) rfl ?_
            refine e_callV (As := [.int (nI (1))]) (st := []) (cc2 := 0) (ss2 := 0) (pc := 59) d_md_create_59 rfl cv_md_149 md_g42 rfl (c_md_fail htr) rfl (by decide) (by decide) (by omega) (by omega) (Nat.le_of_ble_eq_true rfl) (fun _ _ _ hq => nomatch hq.1) (fun r h2 N2 hq => ?_)
            obtain ⟨hr, e1, e2⟩ := hq
            cases hr
            rw [e1, e2]
            clear e1 e2
            show q_Ev l G m_md_create 7 165 0 0 62 [some (.ref (42)), some (.int (nI (j))), some (.int (q)), some (.int (d)), some (.int (nI (3))), none, none] [.int (nI (0))] _ N _
            exact e_iret (pc := 62) d_md_create_62 rfl (by rw [hr0]; unfold m_create; rw [if_neg (fun z => z.2.2.elim (fun y => cb y.2.2) (fun y => absurd (show (3 : Nat) < 2 from y.1) (by decide)))]; exact ⟨rfl, rfl, rfl⟩)

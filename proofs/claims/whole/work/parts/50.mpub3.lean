/-! THE MODEL'S PUBLIC METHODS (3) -/
def m_prop (x : Nat × Nat × Int32 × Int32) (v : Int32) (P : mR) : Int32 × mR := match P.1.2.1 with
  | none => m_F 2 P
  | some r => if 60 ≤ P.2.2.1.1 r then m_F 2 P else if m_qr (prM x P) = true then m_E v (prM x P) else m_F 2 (prM x P)
section PS
variable {fa : Int32} {r ep : Nat} {tm : Int32} {L : mL} {S : mS} {C : mC} {W : mW} {T : mT}
theorem m_prop_s {x : Nat × Nat × Int32 × Int32} {v : Int32} : m_prop x v ((fa, some r, ep, tm), L, S, C, W, T) = if 60 ≤ S.1 r then m_F 2 ((fa, some r, ep, tm), L, S, C, W, T) else if m_qr (prM x ((fa, some r, ep, tm), L, S, C, W, T)) = true then m_E v (prM x ((fa, some r, ep, tm), L, S, C, W, T)) else m_F 2 (prM x ((fa, some r, ep, tm), L, S, C, W, T)) := rfl
theorem prM_fa {c : Int32} {x : Nat × Nat × Int32 × Int32} : m_fa c (prM x ((fa, some r, ep, tm), L, S, C, W, T)) = prM x ((c, some r, ep, tm), L, S, C, W, T) := rfl
end PS
def m_set (s q v d : Int32) (M : mR) : Int32 × mR := if (nI 0 ≤ s ∧ s ≤ nI 3) ∧ (nI 0 ≤ q ∧ q ≤ nI 258) ∧ -1 ≤ v then if m_rc M (nT s) = true then if (pnM M).2.2.2.2.2.1 (nT q) = true then if v ≠ -1 ∧ v ≠ (pnM M).2.2.2.2.2.2.2.1 (nT q) then m_E (-2) (pnM M) else m_prop (2, nT q, d, -1) ((pnM M).2.2.2.2.2.2.2.1 (nT q) + nI 1) (pnM M) else m_F 3 (pnM M) else m_F 2 M else m_F 1 M
def m_delete (s q v : Int32) (M : mR) : Int32 × mR := if (nI 0 ≤ s ∧ s ≤ nI 3) ∧ (nI 1 ≤ q ∧ q ≤ nI 258) ∧ -1 ≤ v then if m_rc M (nT s) = true then if (pnM M).2.2.2.2.2.1 (nT q) = true then if v ≠ -1 ∧ v ≠ (pnM M).2.2.2.2.2.2.2.1 (nT q) then m_E (-2) (pnM M) else if (if nT q < 43 then kidB (pnM M).2.2.2.2.2.1 (nT q) 6 else nI 0) ≠ 0 then m_F 4 (pnM M) else m_prop (3, nT q, nI 0, -1) ((pnM M).2.2.2.2.2.2.2.1 (nT q)) (pnM M) else m_F 3 (pnM M) else m_F 2 M else m_F 1 M
theorem q_of1 {x : Int32} {n : Nat} (hn : n < 2 ^ 31) (h : nI 1 ≤ x ∧ x ≤ nI n) : ∃ j, (1 ≤ j ∧ j < n + 1) ∧ x = nI j := by
  obtain ⟨j, hj, e⟩ := q_ofL hn ⟨Int32.le_trans (by decide) h.1, h.2⟩
  subst e
  exact ⟨j, ⟨(nI_leI (by decide) (by omega)).mp h.1, hj⟩, rfl⟩
set_option maxHeartbeats 400000 in
set_option maxRecDepth 100000 in
theorem c_md_set {l : Launch} {G : q_G} (htr : l.stackTraces = false) {h : q_H} {N : Nat} {fa : Int32} {ld : Option Nat} {ep : Nat} {tm : Int32} {L : mL} {S : mS} {C : mC} {W : mW} {T : mT} {s q v d : Int32} {n : Nat} (hn : n ≤ 72) (hO : mOK n ((fa, ld, ep, tm), L, S, C, W, T)) : q_Met l G m_md_set 7 165 0 0 [.ref (42), .int (s), .int (q), .int (v), .int (d)] (md_put h ((fa, ld, ep, tm), L, S, C, W, T)) N (q_To (some (.int (m_set s q v d ((fa, ld, ep, tm), L, S, C, W, T)).1)) (md_put h (m_set s q v d ((fa, ld, ep, tm), L, S, C, W, T)).2) N) := by
  obtain ⟨r0, hr0⟩ : ∃ r, r = m_set s q v d ((fa, ld, ep, tm), L, S, C, W, T) := ⟨_, rfl⟩
  rw [← hr0]
  refine q_Met.mk htr (by decide +kernel) rfl (List.forall_mem_cons.mpr ⟨rfl, List.forall_mem_cons.mpr ⟨rfl, List.forall_mem_cons.mpr ⟨rfl, List.forall_mem_cons.mpr ⟨rfl, List.forall_mem_cons.mpr ⟨rfl, fun _ h => nomatch h⟩⟩⟩⟩⟩) (Nat.le_of_ble_eq_true rfl) ?_
  refine e_aload_n (pc := 0) d_md_set_0 rfl ?_
  refine e_iconst (pc := 1) d_md_set_1 (v := (nI (0))) rfl ?_
  refine e_putE (pc := 2) d_md_set_2 (fs2 := [.int (nI (0)), .ref (43), .ref (44), .ref (45), .ref (46), .ref (47), .ref (48), .ref (49), .ref (50), .ref (51), .int (ldI ld), .int (nI (ep)), .int (tm), .ref (52), .ref (53), .ref (54), .ref (55), .ref (56), .ref (57), .ref (58), .ref (59), .ref (60), .ref (61), .ref (62), .ref (63), .ref (64), .ref (65)]) fl_md_84 md_g42 (Nat.le_of_ble_eq_true rfl) (fun _ => rfl) (fun _ => rfl) rfl ?_
  rw [md_u42 (ld := ld)]
  show q_Ev l G m_md_set 7 165 0 0 5 [some (.ref (42)), some (.int (s)), some (.int (q)), some (.int (v)), some (.int (d)), none] [] (md_put h (((nI (0)), ld, (ep), (tm)), ((L.1), (L.2.1), (L.2.2.1), (L.2.2.2)), ((S.1), (S.2.1), (S.2.2.1), (S.2.2.2.1), (S.2.2.2.2)), ((C.1), (C.2.1), (C.2.2.1), (C.2.2.2.1), (C.2.2.2.2)), ((W.1), (W.2.1), (W.2.2.1), (W.2.2.2)), ((T.1), (T.2.1), (T.2.2.1), (T.2.2.2.1), (T.2.2.2.2)))) N _
  refine e_aload_n (pc := 5) d_md_set_5 rfl ?_
  refine e_iload_n (pc := 6) d_md_set_6 rfl ?_
  refine e_iconst (pc := 7) d_md_set_7 (v := (nI (4))) rfl ?_
  refine e_callV (As := [.int (s), .int (nI (4))]) (st := []) (cc2 := 0) (ss2 := 0) (pc := 8) d_md_set_8 rfl cv_md_145 md_g42 rfl (c_md_out htr) rfl (by decide) (by decide) (by omega) (by omega) (Nat.le_of_ble_eq_true rfl) (fun _ _ _ hq => nomatch hq.1) (fun r h2 N2 hq => ?_)
  obtain ⟨hr, e1, e2⟩ := hq
  cases hr
  rw [e1, e2]
  clear e1 e2
  show q_Ev l G m_md_set 7 165 0 0 11 [some (.ref (42)), some (.int (s)), some (.int (q)), some (.int (v)), some (.int (d)), none] [.int (bI (decide (s < 0 ∨ ¬ s < nI 4)))] (md_put h (((nI (0)), ld, (ep), (tm)), ((L.1), (L.2.1), (L.2.2.1), (L.2.2.2)), ((S.1), (S.2.1), (S.2.2.1), (S.2.2.2.1), (S.2.2.2.2)), ((C.1), (C.2.1), (C.2.2.1), (C.2.2.2.1), (C.2.2.2.2)), ((W.1), (W.2.1), (W.2.2.1), (W.2.2.2)), ((T.1), (T.2.1), (T.2.2.1), (T.2.2.2.1), (T.2.2.2.2)))) N _
  refine e_ifB_ne (pc := 11) (tgt := 30) d_md_set_11 (by decide) (fun co => ?_) (fun co => ?_)
  · have hs := out_t (n := 3) (by decide) co
    refine e_aload_n (pc := 30) d_md_set_30 rfl ?_
    refine e_iconst (pc := 31) d_md_set_31 (v := (nI (1))) rfl ?_
    refine e_callV (As := [.int (nI (1))]) (st := []) (cc2 := 0) (ss2 := 0) (pc := 32) d_md_set_32 rfl cv_md_149 md_g42 rfl (c_md_fail htr) rfl (by decide) (by decide) (by omega) (by omega) (Nat.le_of_ble_eq_true rfl) (fun _ _ _ hq => nomatch hq.1) (fun r h2 N2 hq => ?_)
    obtain ⟨hr, e1, e2⟩ := hq
    cases hr
    rw [e1, e2]
    clear e1 e2
    show q_Ev l G m_md_set 7 165 0 0 35 [some (.ref (42)), some (.int (s)), some (.int (q)), some (.int (v)), some (.int (d)), none] [.int (nI (0))] _ N _
    exact e_iret (pc := 35) d_md_set_35 rfl (by rw [hr0]; unfold m_set; rw [if_neg (fun z => hs z.1)]; exact ⟨rfl, rfl, rfl⟩)
  · have hs := out_f (n := 3) (by decide) co
    refine e_aload_n (pc := 14) d_md_set_14 rfl ?_
    refine e_iload_n (pc := 15) d_md_set_15 rfl ?_
    refine e_sipush (pc := 16) d_md_set_16 (v := (nI (259))) rfl ?_
    refine e_callV (As := [.int (q), .int (nI (259))]) (st := []) (cc2 := 0) (ss2 := 0) (pc := 19) d_md_set_19 rfl cv_md_145 md_g42 rfl (c_md_out htr) rfl (by decide) (by decide) (by omega) (by omega) (Nat.le_of_ble_eq_true rfl) (fun _ _ _ hq => nomatch hq.1) (fun r h2 N2 hq => ?_)
    obtain ⟨hr, e1, e2⟩ := hq
    cases hr
    rw [e1, e2]
    clear e1 e2
    show q_Ev l G m_md_set 7 165 0 0 22 [some (.ref (42)), some (.int (s)), some (.int (q)), some (.int (v)), some (.int (d)), none] [.int (bI (decide (q < 0 ∨ ¬ q < nI 259)))] (md_put h (((nI (0)), ld, (ep), (tm)), ((L.1), (L.2.1), (L.2.2.1), (L.2.2.2)), ((S.1), (S.2.1), (S.2.2.1), (S.2.2.2.1), (S.2.2.2.2)), ((C.1), (C.2.1), (C.2.2.1), (C.2.2.2.1), (C.2.2.2.2)), ((W.1), (W.2.1), (W.2.2.1), (W.2.2.2)), ((T.1), (T.2.1), (T.2.2.1), (T.2.2.2.1), (T.2.2.2.2)))) N _
    refine e_ifB_ne (pc := 22) (tgt := 30) d_md_set_22 (by decide) (fun co => ?_) (fun co => ?_)
    · have hq := out_t (n := 258) (by decide) co
      refine e_aload_n (pc := 30) d_md_set_30 rfl ?_
      refine e_iconst (pc := 31) d_md_set_31 (v := (nI (1))) rfl ?_
      refine e_callV (As := [.int (nI (1))]) (st := []) (cc2 := 0) (ss2 := 0) (pc := 32) d_md_set_32 rfl cv_md_149 md_g42 rfl (c_md_fail htr) rfl (by decide) (by decide) (by omega) (by omega) (Nat.le_of_ble_eq_true rfl) (fun _ _ _ hq => nomatch hq.1) (fun r h2 N2 hq => ?_)
      obtain ⟨hr, e1, e2⟩ := hq
      cases hr
      rw [e1, e2]
      clear e1 e2
      show q_Ev l G m_md_set 7 165 0 0 35 [some (.ref (42)), some (.int (s)), some (.int (q)), some (.int (v)), some (.int (d)), none] [.int (nI (0))] _ N _
      exact e_iret (pc := 35) d_md_set_35 rfl (by rw [hr0]; unfold m_set; rw [if_neg (fun z => hq z.2.1)]; exact ⟨rfl, rfl, rfl⟩)
    · have hq := out_f (n := 258) (by decide) co
      refine e_iload_n (pc := 25) d_md_set_25 rfl ?_
      refine e_iconst (pc := 26) d_md_set_26 (v := (-1)) rfl ?_
      refine e_icmp_ge (pc := 27) (tgt := 36) d_md_set_27 (by decide) (fun cv => ?_) (fun cv => ?_)
      · have hs1 := hs
        have hq1 := hq
        obtain ⟨j, hj, ej⟩ := q_ofL (n := 3) (by decide) hs
        subst ej
        obtain ⟨p, hp, ep⟩ := q_ofL (n := 258) (by decide) hq
        subst ep
        refine e_aload_n (pc := 36) d_md_set_36 rfl ?_
        refine e_iload_n (pc := 37) d_md_set_37 rfl ?_
        refine e_callV (As := [.int (nI (j))]) (st := []) (cc2 := 0) (ss2 := 0) (pc := 38) d_md_set_38 rfl cv_md_158 md_g42 rfl (c_md_reaches (M := ((nI 0, ld, ep, tm), L, S, C, W, T)) htr hO.1 hj (hO.2.1 j hj)) rfl (by decide) (by decide) (by omega) (by omega) (Nat.le_of_ble_eq_true rfl) (fun _ _ _ hq => nomatch hq.1) (fun r h2 N2 hq => ?_)
        obtain ⟨hr, e1, e2⟩ := hq
        cases hr
        rw [e1, e2]
        clear e1 e2
        show q_Ev l G m_md_set 7 165 0 0 41 [some (.ref (42)), some (.int (nI (j))), some (.int (nI (p))), some (.int (v)), some (.int (d)), none] [.int (bI (m_rc ((fa, ld, ep, tm), L, S, C, W, T) j))] (md_put h (((nI (0)), ld, (ep), (tm)), ((L.1), (L.2.1), (L.2.2.1), (L.2.2.2)), ((S.1), (S.2.1), (S.2.2.1), (S.2.2.2.1), (S.2.2.2.2)), ((C.1), (C.2.1), (C.2.2.1), (C.2.2.2.1), (C.2.2.2.2)), ((W.1), (W.2.1), (W.2.2.1), (W.2.2.2)), ((T.1), (T.2.1), (T.2.2.1), (T.2.2.2.1), (T.2.2.2.2)))) N _
        refine e_ifB_ne (pc := 41) (tgt := 50) d_md_set_41 (by decide) (fun c1 => ?_) (fun c1 => ?_)
        · obtain ⟨r, hl⟩ := m_rc_ld c1
          change ld = some r at hl
          subst hl
          have hr := hO.1 r rfl
          have eP : pnM ((fa, some r, ep, tm), L, S, C, W, T) = ((fa, some r, ep, tm), L, S, C, W, (grT L r (S.1 r) T)) := rfl
          have hlr : S.1 r ≤ n := (hO.2.2.2 r hr).1
          show q_Ev l G m_md_set 7 165 0 0 50 [some (.ref (42)), some (.int (nI (j))), some (.int (nI (p))), some (.int (v)), some (.int (d)), none] [] (md_put h (((nI (0)), (some r), ep, tm), ((L.1), (L.2.1), (L.2.2.1), (L.2.2.2)), ((S.1), (S.2.1), (S.2.2.1), (S.2.2.2.1), (S.2.2.2.2)), ((C.1), (C.2.1), (C.2.2.1), (C.2.2.2.1), (C.2.2.2.2)), ((W.1), (W.2.1), (W.2.2.1), (W.2.2.2)), ((T.1), (T.2.1), (T.2.2.1), (T.2.2.2.1), (T.2.2.2.2)))) N _
          refine e_aload_n (pc := 50) d_md_set_50 rfl ?_
          refine e_callV (As := []) (st := []) (cc2 := 0) (ss2 := 0) (pc := 51) d_md_set_51 rfl cv_md_128 md_g42 rfl (c_md_planned htr (show n ≤ 80 by omega) hr hO.2.1 hO.2.2.1 hO.2.2.2) rfl (by decide) (by decide) (by omega) (by omega) (Nat.le_of_ble_eq_true rfl) (fun _ _ _ hq => nomatch hq.1) (fun r h2 N2 hq => ?_)
          obtain ⟨hr, e1, e2⟩ := hq
          cases hr
          rw [e1, e2]
          clear e1 e2
          show q_Ev l G m_md_set 7 165 0 0 54 [some (.ref (42)), some (.int (nI (j))), some (.int (nI (p))), some (.int (v)), some (.int (d)), none] [] _ N _
          show q_Ev l G m_md_set 7 165 0 0 54 [some (.ref (42)), some (.int (nI (j))), some (.int (nI (p))), some (.int (v)), some (.int (d)), none] [] (md_put h (((nI (0)), (some r), ep, tm), ((L.1), (L.2.1), (L.2.2.1), (L.2.2.2)), ((S.1), (S.2.1), (S.2.2.1), (S.2.2.2.1), (S.2.2.2.2)), ((C.1), (C.2.1), (C.2.2.1), (C.2.2.2.1), (C.2.2.2.2)), ((W.1), (W.2.1), (W.2.2.1), (W.2.2.2)), (((grT L r (S.1 r) T).1), ((grT L r (S.1 r) T).2.1), ((grT L r (S.1 r) T).2.2.1), ((grT L r (S.1 r) T).2.2.2.1), ((grT L r (S.1 r) T).2.2.2.2)))) N _
          refine e_aload_n (pc := 54) d_md_set_54 rfl ?_
          refine e_get (pc := 55) d_md_set_55 fl_md_69 md_g42 rfl ?_
          refine e_iload_n (pc := 58) d_md_set_58 rfl ?_
          refine e_zaldN (pc := 59) d_md_set_59 (f := ((grT L r (S.1 r) T).1)) md_g61 (by omega) (by decide) ?_
          refine e_ifB_ne (pc := 60) (tgt := 69) d_md_set_60 (by decide) (fun ct => ?_) (fun ct => ?_)
          · refine e_aload_n (pc := 69) d_md_set_69 rfl ?_
            refine e_get (pc := 70) d_md_set_70 fl_md_75 md_g42 rfl ?_
            refine e_iload_n (pc := 73) d_md_set_73 rfl ?_
            refine e_ialdN (pc := 74) d_md_set_74 (f := ((grT L r (S.1 r) T).2.2.1)) md_g63 (by omega) (by decide) ?_
            refine e_istore (pc := 75) d_md_set_75 (by decide) ?_
            refine e_iload_n (pc := 77) d_md_set_77 rfl ?_
            refine e_iconst (pc := 78) d_md_set_78 (v := (-1)) rfl ?_
            refine e_icmp_eq (pc := 79) (tgt := 95) d_md_set_79 (by decide) (fun c2 => ?_) (fun c2 => ?_)
            · refine e_aload_n (pc := 95) d_md_set_95 rfl ?_
              refine e_get (pc := 96) d_md_set_96 fl_md_22 md_g42 rfl ?_
              refine e_aload_n (pc := 99) d_md_set_99 rfl ?_
              refine e_get (pc := 100) d_md_set_100 fl_md_105 md_g42 rfl ?_
              refine e_naldN (pc := 103) d_md_set_103 (f := (S.1)) md_g47 (by omega) (by decide) ?_
              refine e_bipush (pc := 104) d_md_set_104 (v := (nI (60))) rfl ?_
              refine e_icmp_ltN (pc := 106) (tgt := 115) d_md_set_106 (by decide) (by omega) (by decide) (fun c60 => ?_) (fun c60 => ?_)
              · refine e_aload_n (pc := 115) d_md_set_115 rfl ?_
                refine e_iconst (pc := 116) d_md_set_116 (v := (nI (2))) rfl ?_
                refine e_iload_n (pc := 117) d_md_set_117 rfl ?_
                refine e_iload (pc := 118) d_md_set_118 rfl ?_
                refine e_iconst (pc := 120) d_md_set_120 (v := (-1)) rfl ?_
                have hx9 : mEx (2, p, d, -1) := ⟨show (2 : Nat) ≤ 4 by decide, show p < 259 by omega, fun z => absurd (show (2 : Nat) = 1 from z) (by decide)⟩
                refine e_callV (As := [.int (nI (2)), .int (nI (p)), .int (d), .int (-1)]) (st := []) (cc2 := 0) (ss2 := 0) (pc := 121) d_md_set_121 rfl cv_md_134 md_g42 rfl (c_md_propose (n := n) htr (show n < 80 by omega) hr hO.2.1 hO.2.2.1 hO.2.2.2 hx9) rfl (by decide) (by decide) (by omega) (by omega) (Nat.le_of_ble_eq_true rfl) (fun _ _ _ hq => nomatch hq.1) (fun r h2 N2 hq => ?_)
                obtain ⟨hr, e1, e2⟩ := hq
                cases hr
                rw [e1, e2]
                clear e1 e2
                show q_Ev l G m_md_set 7 165 0 0 124 [some (.ref (42)), some (.int (nI (j))), some (.int (nI (p))), some (.int (v)), some (.int (d)), some (.int ((((grT L r (S.1 r) T).2.2.1)) (p)))] [] _ N _
                obtain ⟨MX, hMX⟩ : ∃ M, M = prM (2, p, d, -1) ((nI 0, some r, ep, tm), L, S, C, W, (grT L r (S.1 r) T)) := ⟨_, rfl⟩
                refine q_Ev.hp (h1 := md_put h MX) (show md_put h MX = md_put h (prM (2, p, d, -1) ((nI 0, some r, ep, tm), L, S, C, W, (grT L r (S.1 r) T))) from congrArg _ hMX) ?_
                have hOX : mOK (n + 1) MX := by rw [hMX]; exact (prM_ok (M := ((nI 0, some r, ep, tm), L, S, C, W, (grT L r (S.1 r) T))) ⟨hO.1, hO.2.1, hO.2.2.1, hO.2.2.2⟩ (by omega) hx9).1
                have eX : ∀ c, m_fa c (prM (2, p, d, -1) ((fa, some r, ep, tm), L, S, C, W, (grT L r (S.1 r) T))) = m_fa c MX := fun c => by rw [hMX, prM_fa, prM_fa]
                have eQ : m_qr (prM (2, p, d, -1) ((fa, some r, ep, tm), L, S, C, W, (grT L r (S.1 r) T))) = m_qr MX := by rw [hMX]; rfl
                have eF : m_fa (nI 0) MX = MX := by rw [hMX]; rfl
                show q_Ev l G m_md_set 7 165 0 0 124 [some (.ref (42)), some (.int (nI (j))), some (.int (nI (p))), some (.int (v)), some (.int (d)), some (.int ((((grT L r (S.1 r) T).2.2.1)) (p)))] [] (md_put h MX) N _
                refine e_aload_n (pc := 124) d_md_set_124 rfl ?_
                refine e_callV (As := []) (st := []) (cc2 := 0) (ss2 := 0) (pc := 125) d_md_set_125 rfl cv_md_118 md_g42 rfl (c_md_quorum htr hOX.1) rfl (by decide) (by decide) (by omega) (by omega) (Nat.le_of_ble_eq_true rfl) (fun _ _ _ hq => nomatch hq.1) (fun r h2 N2 hq => ?_)
                obtain ⟨hr, e1, e2⟩ := hq
                cases hr
                rw [e1, e2]
                clear e1 e2
                show q_Ev l G m_md_set 7 165 0 0 128 [some (.ref (42)), some (.int (nI (j))), some (.int (nI (p))), some (.int (v)), some (.int (d)), some (.int ((((grT L r (S.1 r) T).2.2.1)) (p)))] [.int (bI (m_qr MX))] (md_put h MX) N _
                refine e_ifB_eq (pc := 128) (tgt := 142) d_md_set_128 (by decide) (fun cq => ?_) (fun cq => ?_)
                · refine e_aload_n (pc := 142) d_md_set_142 rfl ?_
                  refine e_iconst (pc := 143) d_md_set_143 (v := (nI (2))) rfl ?_
                  refine e_callV (As := [.int (nI (2))]) (st := []) (cc2 := 0) (ss2 := 0) (pc := 144) d_md_set_144 rfl cv_md_149 md_g42 rfl (c_md_fail htr) rfl (by decide) (by decide) (by omega) (by omega) (Nat.le_of_ble_eq_true rfl) (fun _ _ _ hq => nomatch hq.1) (fun r h2 N2 hq => ?_)
                  obtain ⟨hr, e1, e2⟩ := hq
                  cases hr
                  rw [e1, e2]
                  clear e1 e2
                  show q_Ev l G m_md_set 7 165 0 0 147 [some (.ref (42)), some (.int (nI (j))), some (.int (nI (p))), some (.int (v)), some (.int (d)), some (.int ((((grT L r (S.1 r) T).2.2.1)) (p)))] [.int (nI (0))] _ N _
                  exact e_iret (pc := 147) d_md_set_147 rfl (by rw [hr0]; unfold m_set; rw [if_pos ⟨hs1, hq1, cv⟩, nT_n (by omega), nT_n (by omega), if_pos c1, eP, if_pos ct, if_neg (fun z => z.1 c2), m_prop_s, if_neg (show ¬ 60 ≤ S.1 r by omega), if_neg (by rw [eQ, cq]; decide)]; unfold m_F; rw [eX]; exact ⟨rfl, rfl, rfl⟩)
                · refine e_aload_n (pc := 131) d_md_set_131 rfl ?_
                  refine e_iload (pc := 132) d_md_set_132 rfl ?_
                  refine e_iconst (pc := 134) d_md_set_134 (v := (nI (1))) rfl ?_
                  refine e_iadd (pc := 135) d_md_set_135  ?_
                  refine e_callV (As := [.int (((((grT L r (S.1 r) T).2.2.1)) (p)) + (nI (1)))]) (st := []) (cc2 := 0) (ss2 := 0) (pc := 136) d_md_set_136 rfl cv_md_155 md_g42 rfl (c_md_end (A := MX.1) (L := MX.2.1) (S := MX.2.2.1) (C := MX.2.2.2.1) (W := MX.2.2.2.2.1) (T := MX.2.2.2.2.2) htr (show n + 1 ≤ 76 by omega) hOX) rfl (by decide) (by decide) (by omega) (by omega) (Nat.le_of_ble_eq_true rfl) (fun _ _ _ hq => nomatch hq.1) (fun r h2 N2 hq => ?_)
                  obtain ⟨hr, e1, e2⟩ := hq
                  cases hr
                  rw [e1, e2]
                  clear e1 e2
                  show q_Ev l G m_md_set 7 165 0 0 139 [some (.ref (42)), some (.int (nI (j))), some (.int (nI (p))), some (.int (v)), some (.int (d)), some (.int ((((grT L r (S.1 r) T).2.2.1)) (p)))] [.int ((grT L r (S.1 r) T).2.2.1 p + nI 1)] _ N _
                  refine e_goto (pc := 139) (tgt := 147) d_md_set_139 (by decide) ?_
                  exact e_iret (pc := 147) d_md_set_147 rfl (by rw [hr0]; unfold m_set; rw [if_pos ⟨hs1, hq1, cv⟩, nT_n (by omega), nT_n (by omega), if_pos c1, eP, if_pos ct, if_neg (fun z => z.1 c2), m_prop_s, if_neg (show ¬ 60 ≤ S.1 r by omega), if_pos (by rw [eQ, cq])]; unfold m_E; rw [eX, eF]; exact ⟨rfl, rfl, rfl⟩)
              · refine e_aload_n (pc := 109) d_md_set_109 rfl ?_
                refine e_iconst (pc := 110) d_md_set_110 (v := (nI (2))) rfl ?_
                refine e_callV (As := [.int (nI (2))]) (st := []) (cc2 := 0) (ss2 := 0) (pc := 111) d_md_set_111 rfl cv_md_149 md_g42 rfl (c_md_fail htr) rfl (by decide) (by decide) (by omega) (by omega) (Nat.le_of_ble_eq_true rfl) (fun _ _ _ hq => nomatch hq.1) (fun r h2 N2 hq => ?_)
                obtain ⟨hr, e1, e2⟩ := hq
                cases hr
                rw [e1, e2]
                clear e1 e2
                show q_Ev l G m_md_set 7 165 0 0 114 [some (.ref (42)), some (.int (nI (j))), some (.int (nI (p))), some (.int (v)), some (.int (d)), some (.int ((((grT L r (S.1 r) T).2.2.1)) (p)))] [.int (nI (0))] _ N _
                exact e_iret (pc := 114) d_md_set_114 rfl (by rw [hr0]; unfold m_set; rw [if_pos ⟨hs1, hq1, cv⟩, nT_n (by omega), nT_n (by omega), if_pos c1, eP, if_pos ct, if_neg (fun z => z.1 c2), m_prop_s, if_pos c60]; exact ⟨rfl, rfl, rfl⟩)
            · refine e_iload_n (pc := 82) d_md_set_82 rfl ?_
              refine e_iload (pc := 83) d_md_set_83 rfl ?_
              refine e_icmp_eq (pc := 85) (tgt := 95) d_md_set_85 (by decide) (fun c3 => ?_) (fun c3 => ?_)
              · refine e_aload_n (pc := 95) d_md_set_95 rfl ?_
                refine e_get (pc := 96) d_md_set_96 fl_md_22 md_g42 rfl ?_
                refine e_aload_n (pc := 99) d_md_set_99 rfl ?_
                refine e_get (pc := 100) d_md_set_100 fl_md_105 md_g42 rfl ?_
                refine e_naldN (pc := 103) d_md_set_103 (f := (S.1)) md_g47 (by omega) (by decide) ?_
                refine e_bipush (pc := 104) d_md_set_104 (v := (nI (60))) rfl ?_
                refine e_icmp_ltN (pc := 106) (tgt := 115) d_md_set_106 (by decide) (by omega) (by decide) (fun c60 => ?_) (fun c60 => ?_)
                · refine e_aload_n (pc := 115) d_md_set_115 rfl ?_
                  refine e_iconst (pc := 116) d_md_set_116 (v := (nI (2))) rfl ?_
                  refine e_iload_n (pc := 117) d_md_set_117 rfl ?_
                  refine e_iload (pc := 118) d_md_set_118 rfl ?_
                  refine e_iconst (pc := 120) d_md_set_120 (v := (-1)) rfl ?_
                  have hx9 : mEx (2, p, d, -1) := ⟨show (2 : Nat) ≤ 4 by decide, show p < 259 by omega, fun z => absurd (show (2 : Nat) = 1 from z) (by decide)⟩
                  refine e_callV (As := [.int (nI (2)), .int (nI (p)), .int (d), .int (-1)]) (st := []) (cc2 := 0) (ss2 := 0) (pc := 121) d_md_set_121 rfl cv_md_134 md_g42 rfl (c_md_propose (n := n) htr (show n < 80 by omega) hr hO.2.1 hO.2.2.1 hO.2.2.2 hx9) rfl (by decide) (by decide) (by omega) (by omega) (Nat.le_of_ble_eq_true rfl) (fun _ _ _ hq => nomatch hq.1) (fun r h2 N2 hq => ?_)
                  obtain ⟨hr, e1, e2⟩ := hq
                  cases hr
                  rw [e1, e2]
                  clear e1 e2
                  show q_Ev l G m_md_set 7 165 0 0 124 [some (.ref (42)), some (.int (nI (j))), some (.int (nI (p))), some (.int (v)), some (.int (d)), some (.int ((((grT L r (S.1 r) T).2.2.1)) (p)))] [] _ N _
                  obtain ⟨MX, hMX⟩ : ∃ M, M = prM (2, p, d, -1) ((nI 0, some r, ep, tm), L, S, C, W, (grT L r (S.1 r) T)) := ⟨_, rfl⟩
                  refine q_Ev.hp (h1 := md_put h MX) (show md_put h MX = md_put h (prM (2, p, d, -1) ((nI 0, some r, ep, tm), L, S, C, W, (grT L r (S.1 r) T))) from congrArg _ hMX) ?_
                  have hOX : mOK (n + 1) MX := by rw [hMX]; exact (prM_ok (M := ((nI 0, some r, ep, tm), L, S, C, W, (grT L r (S.1 r) T))) ⟨hO.1, hO.2.1, hO.2.2.1, hO.2.2.2⟩ (by omega) hx9).1
                  have eX : ∀ c, m_fa c (prM (2, p, d, -1) ((fa, some r, ep, tm), L, S, C, W, (grT L r (S.1 r) T))) = m_fa c MX := fun c => by rw [hMX, prM_fa, prM_fa]
                  have eQ : m_qr (prM (2, p, d, -1) ((fa, some r, ep, tm), L, S, C, W, (grT L r (S.1 r) T))) = m_qr MX := by rw [hMX]; rfl
                  have eF : m_fa (nI 0) MX = MX := by rw [hMX]; rfl
                  show q_Ev l G m_md_set 7 165 0 0 124 [some (.ref (42)), some (.int (nI (j))), some (.int (nI (p))), some (.int (v)), some (.int (d)), some (.int ((((grT L r (S.1 r) T).2.2.1)) (p)))] [] (md_put h MX) N _
                  refine e_aload_n (pc := 124) d_md_set_124 rfl ?_
                  refine e_callV (As := []) (st := []) (cc2 := 0) (ss2 := 0) (pc := 125) d_md_set_125 rfl cv_md_118 md_g42 rfl (c_md_quorum htr hOX.1) rfl (by decide) (by decide) (by omega) (by omega) (Nat.le_of_ble_eq_true rfl) (fun _ _ _ hq => nomatch hq.1) (fun r h2 N2 hq => ?_)
                  obtain ⟨hr, e1, e2⟩ := hq
                  cases hr
                  rw [e1, e2]
                  clear e1 e2
                  show q_Ev l G m_md_set 7 165 0 0 128 [some (.ref (42)), some (.int (nI (j))), some (.int (nI (p))), some (.int (v)), some (.int (d)), some (.int ((((grT L r (S.1 r) T).2.2.1)) (p)))] [.int (bI (m_qr MX))] (md_put h MX) N _
                  refine e_ifB_eq (pc := 128) (tgt := 142) d_md_set_128 (by decide) (fun cq => ?_) (fun cq => ?_)
                  · refine e_aload_n (pc := 142) d_md_set_142 rfl ?_
                    refine e_iconst (pc := 143) d_md_set_143 (v := (nI (2))) rfl ?_
                    refine e_callV (As := [.int (nI (2))]) (st := []) (cc2 := 0) (ss2 := 0) (pc := 144) d_md_set_144 rfl cv_md_149 md_g42 rfl (c_md_fail htr) rfl (by decide) (by decide) (by omega) (by omega) (Nat.le_of_ble_eq_true rfl) (fun _ _ _ hq => nomatch hq.1) (fun r h2 N2 hq => ?_)
                    obtain ⟨hr, e1, e2⟩ := hq
                    cases hr
                    rw [e1, e2]
                    clear e1 e2
                    show q_Ev l G m_md_set 7 165 0 0 147 [some (.ref (42)), some (.int (nI (j))), some (.int (nI (p))), some (.int (v)), some (.int (d)), some (.int ((((grT L r (S.1 r) T).2.2.1)) (p)))] [.int (nI (0))] _ N _
                    exact e_iret (pc := 147) d_md_set_147 rfl (by rw [hr0]; unfold m_set; rw [if_pos ⟨hs1, hq1, cv⟩, nT_n (by omega), nT_n (by omega), if_pos c1, eP, if_pos ct, if_neg (fun z => z.2 c3), m_prop_s, if_neg (show ¬ 60 ≤ S.1 r by omega), if_neg (by rw [eQ, cq]; decide)]; unfold m_F; rw [eX]; exact ⟨rfl, rfl, rfl⟩)
                  · refine e_aload_n (pc := 131) d_md_set_131 rfl ?_
                    refine e_iload (pc := 132) d_md_set_132 rfl ?_
                    refine e_iconst (pc := 134) d_md_set_134 (v := (nI (1))) rfl ?_
                    refine e_iadd (pc := 135) d_md_set_135  ?_
                    refine e_callV (As := [.int (((((grT L r (S.1 r) T).2.2.1)) (p)) + (nI (1)))]) (st := []) (cc2 := 0) (ss2 := 0) (pc := 136) d_md_set_136 rfl cv_md_155 md_g42 rfl (c_md_end (A := MX.1) (L := MX.2.1) (S := MX.2.2.1) (C := MX.2.2.2.1) (W := MX.2.2.2.2.1) (T := MX.2.2.2.2.2) htr (show n + 1 ≤ 76 by omega) hOX) rfl (by decide) (by decide) (by omega) (by omega) (Nat.le_of_ble_eq_true rfl) (fun _ _ _ hq => nomatch hq.1) (fun r h2 N2 hq => ?_)
                    obtain ⟨hr, e1, e2⟩ := hq
                    cases hr
                    rw [e1, e2]
                    clear e1 e2
                    show q_Ev l G m_md_set 7 165 0 0 139 [some (.ref (42)), some (.int (nI (j))), some (.int (nI (p))), some (.int (v)), some (.int (d)), some (.int ((((grT L r (S.1 r) T).2.2.1)) (p)))] [.int ((grT L r (S.1 r) T).2.2.1 p + nI 1)] _ N _
                    refine e_goto (pc := 139) (tgt := 147) d_md_set_139 (by decide) ?_
                    exact e_iret (pc := 147) d_md_set_147 rfl (by rw [hr0]; unfold m_set; rw [if_pos ⟨hs1, hq1, cv⟩, nT_n (by omega), nT_n (by omega), if_pos c1, eP, if_pos ct, if_neg (fun z => z.2 c3), m_prop_s, if_neg (show ¬ 60 ≤ S.1 r by omega), if_pos (by rw [eQ, cq])]; unfold m_E; rw [eX, eF]; exact ⟨rfl, rfl, rfl⟩)
                · refine e_aload_n (pc := 109) d_md_set_109 rfl ?_
                  refine e_iconst (pc := 110) d_md_set_110 (v := (nI (2))) rfl ?_
                  refine e_callV (As := [.int (nI (2))]) (st := []) (cc2 := 0) (ss2 := 0) (pc := 111) d_md_set_111 rfl cv_md_149 md_g42 rfl (c_md_fail htr) rfl (by decide) (by decide) (by omega) (by omega) (Nat.le_of_ble_eq_true rfl) (fun _ _ _ hq => nomatch hq.1) (fun r h2 N2 hq => ?_)
                  obtain ⟨hr, e1, e2⟩ := hq
                  cases hr
                  rw [e1, e2]
                  clear e1 e2
                  show q_Ev l G m_md_set 7 165 0 0 114 [some (.ref (42)), some (.int (nI (j))), some (.int (nI (p))), some (.int (v)), some (.int (d)), some (.int ((((grT L r (S.1 r) T).2.2.1)) (p)))] [.int (nI (0))] _ N _
                  exact e_iret (pc := 114) d_md_set_114 rfl (by rw [hr0]; unfold m_set; rw [if_pos ⟨hs1, hq1, cv⟩, nT_n (by omega), nT_n (by omega), if_pos c1, eP, if_pos ct, if_neg (fun z => z.2 c3), m_prop_s, if_pos c60]; exact ⟨rfl, rfl, rfl⟩)
              · refine e_aload_n (pc := 88) d_md_set_88 rfl ?_
                refine e_bipush (pc := 89) d_md_set_89 (v := (-2)) rfl ?_
                refine e_callV (As := [.int (-2)]) (st := []) (cc2 := 0) (ss2 := 0) (pc := 91) d_md_set_91 rfl cv_md_155 md_g42 rfl (c_md_end htr (show _ ≤ 76 by omega) ⟨hO.1, hO.2.1, hO.2.2.1, hO.2.2.2⟩) rfl (by decide) (by decide) (by omega) (by omega) (Nat.le_of_ble_eq_true rfl) (fun _ _ _ hq => nomatch hq.1) (fun r h2 N2 hq => ?_)
                obtain ⟨hr, e1, e2⟩ := hq
                cases hr
                rw [e1, e2]
                clear e1 e2
                show q_Ev l G m_md_set 7 165 0 0 94 [some (.ref (42)), some (.int (nI (j))), some (.int (nI (p))), some (.int (v)), some (.int (d)), some (.int ((((grT L r (S.1 r) T).2.2.1)) (p)))] [.int (-2)] _ N _
                exact e_iret (pc := 94) d_md_set_94 rfl (by rw [hr0]; unfold m_set; rw [if_pos ⟨hs1, hq1, cv⟩, nT_n (by omega), nT_n (by omega), if_pos c1, eP, if_pos ct, if_pos ⟨c2, c3⟩]; exact ⟨rfl, rfl, rfl⟩)
          · refine e_aload_n (pc := 63) d_md_set_63 rfl ?_
            refine e_iconst (pc := 64) d_md_set_64 (v := (nI (3))) rfl ?_
            refine e_callV (As := [.int (nI (3))]) (st := []) (cc2 := 0) (ss2 := 0) (pc := 65) d_md_set_65 rfl cv_md_149 md_g42 rfl (c_md_fail htr) rfl (by decide) (by decide) (by omega) (by omega) (Nat.le_of_ble_eq_true rfl) (fun _ _ _ hq => nomatch hq.1) (fun r h2 N2 hq => ?_)
            obtain ⟨hr, e1, e2⟩ := hq
            cases hr
            rw [e1, e2]
            clear e1 e2
            show q_Ev l G m_md_set 7 165 0 0 68 [some (.ref (42)), some (.int (nI (j))), some (.int (nI (p))), some (.int (v)), some (.int (d)), none] [.int (nI (0))] _ N _
            exact e_iret (pc := 68) d_md_set_68 rfl (by rw [hr0]; unfold m_set; rw [if_pos ⟨hs1, hq1, cv⟩, nT_n (by omega), nT_n (by omega), if_pos c1, eP, if_neg (fun z => absurd (ct.symm.trans z) (by decide))]; exact ⟨rfl, rfl, rfl⟩)
        · refine e_aload_n (pc := 44) d_md_set_44 rfl ?_
          refine e_iconst (pc := 45) d_md_set_45 (v := (nI (2))) rfl ?_
          refine e_callV (As := [.int (nI (2))]) (st := []) (cc2 := 0) (ss2 := 0) (pc := 46) d_md_set_46 rfl cv_md_149 md_g42 rfl (c_md_fail htr) rfl (by decide) (by decide) (by omega) (by omega) (Nat.le_of_ble_eq_true rfl) (fun _ _ _ hq => nomatch hq.1) (fun r h2 N2 hq => ?_)
          obtain ⟨hr, e1, e2⟩ := hq
          cases hr
          rw [e1, e2]
          clear e1 e2
          show q_Ev l G m_md_set 7 165 0 0 49 [some (.ref (42)), some (.int (nI (j))), some (.int (nI (p))), some (.int (v)), some (.int (d)), none] [.int (nI (0))] _ N _
          exact e_iret (pc := 49) d_md_set_49 rfl (by rw [hr0]; unfold m_set; rw [if_pos ⟨hs1, hq1, cv⟩, nT_n (by omega), nT_n (by omega), if_neg (fun z => absurd (c1.symm.trans z) (by decide))]; exact ⟨rfl, rfl, rfl⟩)
      · refine e_aload_n (pc := 30) d_md_set_30 rfl ?_
        refine e_iconst (pc := 31) d_md_set_31 (v := (nI (1))) rfl ?_
        refine e_callV (As := [.int (nI (1))]) (st := []) (cc2 := 0) (ss2 := 0) (pc := 32) d_md_set_32 rfl cv_md_149 md_g42 rfl (c_md_fail htr) rfl (by decide) (by decide) (by omega) (by omega) (Nat.le_of_ble_eq_true rfl) (fun _ _ _ hq => nomatch hq.1) (fun r h2 N2 hq => ?_)
        obtain ⟨hr, e1, e2⟩ := hq
        cases hr
        rw [e1, e2]
        clear e1 e2
        show q_Ev l G m_md_set 7 165 0 0 35 [some (.ref (42)), some (.int (s)), some (.int (q)), some (.int (v)), some (.int (d)), none] [.int (nI (0))] _ N _
        exact e_iret (pc := 35) d_md_set_35 rfl (by rw [hr0]; unfold m_set; rw [if_neg (fun z => cv z.2.2)]; exact ⟨rfl, rfl, rfl⟩)
set_option maxHeartbeats 400000 in
set_option maxRecDepth 100000 in
theorem c_md_delete {l : Launch} {G : q_G} (htr : l.stackTraces = false) {h : q_H} {N : Nat} {fa : Int32} {ld : Option Nat} {ep : Nat} {tm : Int32} {L : mL} {S : mS} {C : mC} {W : mW} {T : mT} {s q v : Int32} {n : Nat} (hn : n ≤ 72) (hO : mOK n ((fa, ld, ep, tm), L, S, C, W, T)) : q_Met l G m_md_delete 7 165 0 0 [.ref (42), .int (s), .int (q), .int (v)] (md_put h ((fa, ld, ep, tm), L, S, C, W, T)) N (q_To (some (.int (m_delete s q v ((fa, ld, ep, tm), L, S, C, W, T)).1)) (md_put h (m_delete s q v ((fa, ld, ep, tm), L, S, C, W, T)).2) N) := by
  obtain ⟨r0, hr0⟩ : ∃ r, r = m_delete s q v ((fa, ld, ep, tm), L, S, C, W, T) := ⟨_, rfl⟩
  rw [← hr0]
  refine q_Met.mk htr (by decide +kernel) rfl (List.forall_mem_cons.mpr ⟨rfl, List.forall_mem_cons.mpr ⟨rfl, List.forall_mem_cons.mpr ⟨rfl, List.forall_mem_cons.mpr ⟨rfl, fun _ h => nomatch h⟩⟩⟩⟩) (Nat.le_of_ble_eq_true rfl) ?_
  refine e_aload_n (pc := 0) d_md_delete_0 rfl ?_
  refine e_iconst (pc := 1) d_md_delete_1 (v := (nI (0))) rfl ?_
  refine e_putE (pc := 2) d_md_delete_2 (fs2 := [.int (nI (0)), .ref (43), .ref (44), .ref (45), .ref (46), .ref (47), .ref (48), .ref (49), .ref (50), .ref (51), .int (ldI ld), .int (nI (ep)), .int (tm), .ref (52), .ref (53), .ref (54), .ref (55), .ref (56), .ref (57), .ref (58), .ref (59), .ref (60), .ref (61), .ref (62), .ref (63), .ref (64), .ref (65)]) fl_md_84 md_g42 (Nat.le_of_ble_eq_true rfl) (fun _ => rfl) (fun _ => rfl) rfl ?_
  rw [md_u42 (ld := ld)]
  show q_Ev l G m_md_delete 7 165 0 0 5 [some (.ref (42)), some (.int (s)), some (.int (q)), some (.int (v)), none] [] (md_put h (((nI (0)), ld, (ep), (tm)), ((L.1), (L.2.1), (L.2.2.1), (L.2.2.2)), ((S.1), (S.2.1), (S.2.2.1), (S.2.2.2.1), (S.2.2.2.2)), ((C.1), (C.2.1), (C.2.2.1), (C.2.2.2.1), (C.2.2.2.2)), ((W.1), (W.2.1), (W.2.2.1), (W.2.2.2)), ((T.1), (T.2.1), (T.2.2.1), (T.2.2.2.1), (T.2.2.2.2)))) N _
  refine e_aload_n (pc := 5) d_md_delete_5 rfl ?_
  refine e_iload_n (pc := 6) d_md_delete_6 rfl ?_
  refine e_iconst (pc := 7) d_md_delete_7 (v := (nI (4))) rfl ?_
  refine e_callV (As := [.int (s), .int (nI (4))]) (st := []) (cc2 := 0) (ss2 := 0) (pc := 8) d_md_delete_8 rfl cv_md_145 md_g42 rfl (c_md_out htr) rfl (by decide) (by decide) (by omega) (by omega) (Nat.le_of_ble_eq_true rfl) (fun _ _ _ hq => nomatch hq.1) (fun r h2 N2 hq => ?_)
  obtain ⟨hr, e1, e2⟩ := hq
  cases hr
  rw [e1, e2]
  clear e1 e2
  show q_Ev l G m_md_delete 7 165 0 0 11 [some (.ref (42)), some (.int (s)), some (.int (q)), some (.int (v)), none] [.int (bI (decide (s < 0 ∨ ¬ s < nI 4)))] (md_put h (((nI (0)), ld, (ep), (tm)), ((L.1), (L.2.1), (L.2.2.1), (L.2.2.2)), ((S.1), (S.2.1), (S.2.2.1), (S.2.2.2.1), (S.2.2.2.2)), ((C.1), (C.2.1), (C.2.2.1), (C.2.2.2.1), (C.2.2.2.2)), ((W.1), (W.2.1), (W.2.2.1), (W.2.2.2)), ((T.1), (T.2.1), (T.2.2.1), (T.2.2.2.1), (T.2.2.2.2)))) N _
  refine e_ifB_ne (pc := 11) (tgt := 31) d_md_delete_11 (by decide) (fun co => ?_) (fun co => ?_)
  · have hs := out_t (n := 3) (by decide) co
    refine e_aload_n (pc := 31) d_md_delete_31 rfl ?_
    refine e_iconst (pc := 32) d_md_delete_32 (v := (nI (1))) rfl ?_
    refine e_callV (As := [.int (nI (1))]) (st := []) (cc2 := 0) (ss2 := 0) (pc := 33) d_md_delete_33 rfl cv_md_149 md_g42 rfl (c_md_fail htr) rfl (by decide) (by decide) (by omega) (by omega) (Nat.le_of_ble_eq_true rfl) (fun _ _ _ hq => nomatch hq.1) (fun r h2 N2 hq => ?_)
    obtain ⟨hr, e1, e2⟩ := hq
    cases hr
    rw [e1, e2]
    clear e1 e2
    show q_Ev l G m_md_delete 7 165 0 0 36 [some (.ref (42)), some (.int (s)), some (.int (q)), some (.int (v)), none] [.int (nI (0))] _ N _
    exact e_iret (pc := 36) d_md_delete_36 rfl (by rw [hr0]; unfold m_delete; rw [if_neg (fun z => hs z.1)]; exact ⟨rfl, rfl, rfl⟩)
  · have hs := out_f (n := 3) (by decide) co
    refine e_iload_n (pc := 14) d_md_delete_14 rfl ?_
    refine e_iconst (pc := 15) d_md_delete_15 (v := (nI (1))) rfl ?_
    refine e_icmp_lt (pc := 16) (tgt := 31) d_md_delete_16 (by decide) (fun ca => ?_) (fun ca => ?_)
    · refine e_aload_n (pc := 31) d_md_delete_31 rfl ?_
      refine e_iconst (pc := 32) d_md_delete_32 (v := (nI (1))) rfl ?_
      refine e_callV (As := [.int (nI (1))]) (st := []) (cc2 := 0) (ss2 := 0) (pc := 33) d_md_delete_33 rfl cv_md_149 md_g42 rfl (c_md_fail htr) rfl (by decide) (by decide) (by omega) (by omega) (Nat.le_of_ble_eq_true rfl) (fun _ _ _ hq => nomatch hq.1) (fun r h2 N2 hq => ?_)
      obtain ⟨hr, e1, e2⟩ := hq
      cases hr
      rw [e1, e2]
      clear e1 e2
      show q_Ev l G m_md_delete 7 165 0 0 36 [some (.ref (42)), some (.int (s)), some (.int (q)), some (.int (v)), none] [.int (nI (0))] _ N _
      exact e_iret (pc := 36) d_md_delete_36 rfl (by rw [hr0]; unfold m_delete; rw [if_neg (fun z => Int32.not_le.mpr ca z.2.1.1)]; exact ⟨rfl, rfl, rfl⟩)
    · refine e_iload_n (pc := 19) d_md_delete_19 rfl ?_
      refine e_sipush (pc := 20) d_md_delete_20 (v := (nI (258))) rfl ?_
      refine e_icmp_gt (pc := 23) (tgt := 31) d_md_delete_23 (by decide) (fun cb => ?_) (fun cb => ?_)
      · refine e_aload_n (pc := 31) d_md_delete_31 rfl ?_
        refine e_iconst (pc := 32) d_md_delete_32 (v := (nI (1))) rfl ?_
        refine e_callV (As := [.int (nI (1))]) (st := []) (cc2 := 0) (ss2 := 0) (pc := 33) d_md_delete_33 rfl cv_md_149 md_g42 rfl (c_md_fail htr) rfl (by decide) (by decide) (by omega) (by omega) (Nat.le_of_ble_eq_true rfl) (fun _ _ _ hq => nomatch hq.1) (fun r h2 N2 hq => ?_)
        obtain ⟨hr, e1, e2⟩ := hq
        cases hr
        rw [e1, e2]
        clear e1 e2
        show q_Ev l G m_md_delete 7 165 0 0 36 [some (.ref (42)), some (.int (s)), some (.int (q)), some (.int (v)), none] [.int (nI (0))] _ N _
        exact e_iret (pc := 36) d_md_delete_36 rfl (by rw [hr0]; unfold m_delete; rw [if_neg (fun z => Int32.not_le.mpr cb z.2.1.2)]; exact ⟨rfl, rfl, rfl⟩)
      · refine e_iload_n (pc := 26) d_md_delete_26 rfl ?_
        refine e_iconst (pc := 27) d_md_delete_27 (v := (-1)) rfl ?_
        refine e_icmp_ge (pc := 28) (tgt := 37) d_md_delete_28 (by decide) (fun cv => ?_) (fun cv => ?_)
        · have hs1 := hs
          have hq1 : nI 1 ≤ q ∧ q ≤ nI 258 := ⟨Int32.not_lt.mp ca, Int32.not_lt.mp cb⟩
          obtain ⟨j, hj, ej⟩ := q_ofL (n := 3) (by decide) hs
          subst ej
          obtain ⟨p, ⟨hp1, hp⟩, ep9⟩ := q_of1 (n := 258) (by decide) hq1
          subst ep9
          refine e_aload_n (pc := 37) d_md_delete_37 rfl ?_
          refine e_iload_n (pc := 38) d_md_delete_38 rfl ?_
          refine e_callV (As := [.int (nI (j))]) (st := []) (cc2 := 0) (ss2 := 0) (pc := 39) d_md_delete_39 rfl cv_md_158 md_g42 rfl (c_md_reaches (M := ((nI 0, ld, ep, tm), L, S, C, W, T)) htr hO.1 hj (hO.2.1 j hj)) rfl (by decide) (by decide) (by omega) (by omega) (Nat.le_of_ble_eq_true rfl) (fun _ _ _ hq => nomatch hq.1) (fun r h2 N2 hq => ?_)
          obtain ⟨hr, e1, e2⟩ := hq
          cases hr
          rw [e1, e2]
          clear e1 e2
          show q_Ev l G m_md_delete 7 165 0 0 42 [some (.ref (42)), some (.int (nI (j))), some (.int (nI (p))), some (.int (v)), none] [.int (bI (m_rc ((fa, ld, ep, tm), L, S, C, W, T) j))] (md_put h (((nI (0)), ld, (ep), (tm)), ((L.1), (L.2.1), (L.2.2.1), (L.2.2.2)), ((S.1), (S.2.1), (S.2.2.1), (S.2.2.2.1), (S.2.2.2.2)), ((C.1), (C.2.1), (C.2.2.1), (C.2.2.2.1), (C.2.2.2.2)), ((W.1), (W.2.1), (W.2.2.1), (W.2.2.2)), ((T.1), (T.2.1), (T.2.2.1), (T.2.2.2.1), (T.2.2.2.2)))) N _
          refine e_ifB_ne (pc := 42) (tgt := 51) d_md_delete_42 (by decide) (fun c1 => ?_) (fun c1 => ?_)
          · obtain ⟨r, hl⟩ := m_rc_ld c1
            change ld = some r at hl
            subst hl
            have hr := hO.1 r rfl
            have eP : pnM ((fa, some r, ep, tm), L, S, C, W, T) = ((fa, some r, ep, tm), L, S, C, W, (grT L r (S.1 r) T)) := rfl
            have hlr : S.1 r ≤ n := (hO.2.2.2 r hr).1
            show q_Ev l G m_md_delete 7 165 0 0 51 [some (.ref (42)), some (.int (nI (j))), some (.int (nI (p))), some (.int (v)), none] [] (md_put h (((nI (0)), (some r), ep, tm), ((L.1), (L.2.1), (L.2.2.1), (L.2.2.2)), ((S.1), (S.2.1), (S.2.2.1), (S.2.2.2.1), (S.2.2.2.2)), ((C.1), (C.2.1), (C.2.2.1), (C.2.2.2.1), (C.2.2.2.2)), ((W.1), (W.2.1), (W.2.2.1), (W.2.2.2)), ((T.1), (T.2.1), (T.2.2.1), (T.2.2.2.1), (T.2.2.2.2)))) N _
            refine e_aload_n (pc := 51) d_md_delete_51 rfl ?_
            refine e_callV (As := []) (st := []) (cc2 := 0) (ss2 := 0) (pc := 52) d_md_delete_52 rfl cv_md_128 md_g42 rfl (c_md_planned htr (show n ≤ 80 by omega) hr hO.2.1 hO.2.2.1 hO.2.2.2) rfl (by decide) (by decide) (by omega) (by omega) (Nat.le_of_ble_eq_true rfl) (fun _ _ _ hq => nomatch hq.1) (fun r h2 N2 hq => ?_)
            obtain ⟨hr, e1, e2⟩ := hq
            cases hr
            rw [e1, e2]
            clear e1 e2
            show q_Ev l G m_md_delete 7 165 0 0 55 [some (.ref (42)), some (.int (nI (j))), some (.int (nI (p))), some (.int (v)), none] [] _ N _
            show q_Ev l G m_md_delete 7 165 0 0 55 [some (.ref (42)), some (.int (nI (j))), some (.int (nI (p))), some (.int (v)), none] [] (md_put h (((nI (0)), (some r), ep, tm), ((L.1), (L.2.1), (L.2.2.1), (L.2.2.2)), ((S.1), (S.2.1), (S.2.2.1), (S.2.2.2.1), (S.2.2.2.2)), ((C.1), (C.2.1), (C.2.2.1), (C.2.2.2.1), (C.2.2.2.2)), ((W.1), (W.2.1), (W.2.2.1), (W.2.2.2)), (((grT L r (S.1 r) T).1), ((grT L r (S.1 r) T).2.1), ((grT L r (S.1 r) T).2.2.1), ((grT L r (S.1 r) T).2.2.2.1), ((grT L r (S.1 r) T).2.2.2.2)))) N _
            refine e_aload_n (pc := 55) d_md_delete_55 rfl ?_
            refine e_get (pc := 56) d_md_delete_56 fl_md_69 md_g42 rfl ?_
            refine e_iload_n (pc := 59) d_md_delete_59 rfl ?_
            refine e_zaldN (pc := 60) d_md_delete_60 (f := ((grT L r (S.1 r) T).1)) md_g61 (by omega) (by decide) ?_
            refine e_ifB_ne (pc := 61) (tgt := 70) d_md_delete_61 (by decide) (fun ct => ?_) (fun ct => ?_)
            · refine e_aload_n (pc := 70) d_md_delete_70 rfl ?_
              refine e_get (pc := 71) d_md_delete_71 fl_md_75 md_g42 rfl ?_
              refine e_iload_n (pc := 74) d_md_delete_74 rfl ?_
              refine e_ialdN (pc := 75) d_md_delete_75 (f := ((grT L r (S.1 r) T).2.2.1)) md_g63 (by omega) (by decide) ?_
              refine e_istore (pc := 76) d_md_delete_76 (by decide) ?_
              refine e_iload_n (pc := 78) d_md_delete_78 rfl ?_
              refine e_iconst (pc := 79) d_md_delete_79 (v := (-1)) rfl ?_
              refine e_icmp_eq (pc := 80) (tgt := 96) d_md_delete_80 (by decide) (fun c2 => ?_) (fun c2 => ?_)
              · refine e_aload_n (pc := 96) d_md_delete_96 rfl ?_
                refine e_iload_n (pc := 97) d_md_delete_97 rfl ?_
                refine e_callV (As := [.int (nI (p))]) (st := []) (cc2 := 0) (ss2 := 0) (pc := 98) d_md_delete_98 rfl cv_md_164 md_g42 rfl (c_md_childrenOf htr (show p < 259 by omega)) rfl (by decide) (by decide) (by omega) (by omega) (Nat.le_of_ble_eq_true rfl) (fun _ _ _ hq => nomatch hq.1) (fun r h2 N2 hq => ?_)
                obtain ⟨hr, e1, e2⟩ := hq
                cases hr
                rw [e1, e2]
                clear e1 e2
                show q_Ev l G m_md_delete 7 165 0 0 101 [some (.ref (42)), some (.int (nI (j))), some (.int (nI (p))), some (.int (v)), some (.int ((((grT L r (S.1 r) T).2.2.1)) (p)))] [.int (if p < 43 then kidB (grT L r (S.1 r) T).1 p 6 else nI 0)] (md_put h (((nI (0)), (some r), ep, tm), ((L.1), (L.2.1), (L.2.2.1), (L.2.2.2)), ((S.1), (S.2.1), (S.2.2.1), (S.2.2.2.1), (S.2.2.2.2)), ((C.1), (C.2.1), (C.2.2.1), (C.2.2.2.1), (C.2.2.2.2)), ((W.1), (W.2.1), (W.2.2.1), (W.2.2.2)), (((grT L r (S.1 r) T).1), ((grT L r (S.1 r) T).2.1), ((grT L r (S.1 r) T).2.2.1), ((grT L r (S.1 r) T).2.2.2.1), ((grT L r (S.1 r) T).2.2.2.2)))) N _
                refine e_if_eq (pc := 101) (tgt := 110) d_md_delete_101 (by decide) (fun ck => ?_) (fun ck => ?_)
                · refine e_aload_n (pc := 110) d_md_delete_110 rfl ?_
                  refine e_get (pc := 111) d_md_delete_111 fl_md_22 md_g42 rfl ?_
                  refine e_aload_n (pc := 114) d_md_delete_114 rfl ?_
                  refine e_get (pc := 115) d_md_delete_115 fl_md_105 md_g42 rfl ?_
                  refine e_naldN (pc := 118) d_md_delete_118 (f := (S.1)) md_g47 (by omega) (by decide) ?_
                  refine e_bipush (pc := 119) d_md_delete_119 (v := (nI (60))) rfl ?_
                  refine e_icmp_ltN (pc := 121) (tgt := 130) d_md_delete_121 (by decide) (by omega) (by decide) (fun c60 => ?_) (fun c60 => ?_)
                  · refine e_aload_n (pc := 130) d_md_delete_130 rfl ?_
                    refine e_iconst (pc := 131) d_md_delete_131 (v := (nI (3))) rfl ?_
                    refine e_iload_n (pc := 132) d_md_delete_132 rfl ?_
                    refine e_iconst (pc := 133) d_md_delete_133 (v := (nI (0))) rfl ?_
                    refine e_iconst (pc := 134) d_md_delete_134 (v := (-1)) rfl ?_
                    have hx9 : mEx (3, p, nI 0, -1) := ⟨show (3 : Nat) ≤ 4 by decide, show p < 259 by omega, fun z => absurd (show (3 : Nat) = 1 from z) (by decide)⟩
                    refine e_callV (As := [.int (nI (3)), .int (nI (p)), .int (nI (0)), .int (-1)]) (st := []) (cc2 := 0) (ss2 := 0) (pc := 135) d_md_delete_135 rfl cv_md_134 md_g42 rfl (c_md_propose (n := n) htr (show n < 80 by omega) hr hO.2.1 hO.2.2.1 hO.2.2.2 hx9) rfl (by decide) (by decide) (by omega) (by omega) (Nat.le_of_ble_eq_true rfl) (fun _ _ _ hq => nomatch hq.1) (fun r h2 N2 hq => ?_)
                    obtain ⟨hr, e1, e2⟩ := hq
                    cases hr
                    rw [e1, e2]
                    clear e1 e2
                    show q_Ev l G m_md_delete 7 165 0 0 138 [some (.ref (42)), some (.int (nI (j))), some (.int (nI (p))), some (.int (v)), some (.int ((((grT L r (S.1 r) T).2.2.1)) (p)))] [] _ N _
                    obtain ⟨MX, hMX⟩ : ∃ M, M = prM (3, p, nI 0, -1) ((nI 0, some r, ep, tm), L, S, C, W, (grT L r (S.1 r) T)) := ⟨_, rfl⟩
                    refine q_Ev.hp (h1 := md_put h MX) (show md_put h MX = md_put h (prM (3, p, nI 0, -1) ((nI 0, some r, ep, tm), L, S, C, W, (grT L r (S.1 r) T))) from congrArg _ hMX) ?_
                    have hOX : mOK (n + 1) MX := by rw [hMX]; exact (prM_ok (M := ((nI 0, some r, ep, tm), L, S, C, W, (grT L r (S.1 r) T))) ⟨hO.1, hO.2.1, hO.2.2.1, hO.2.2.2⟩ (by omega) hx9).1
                    have eX : ∀ c, m_fa c (prM (3, p, nI 0, -1) ((fa, some r, ep, tm), L, S, C, W, (grT L r (S.1 r) T))) = m_fa c MX := fun c => by rw [hMX, prM_fa, prM_fa]
                    have eQ : m_qr (prM (3, p, nI 0, -1) ((fa, some r, ep, tm), L, S, C, W, (grT L r (S.1 r) T))) = m_qr MX := by rw [hMX]; rfl
                    have eF : m_fa (nI 0) MX = MX := by rw [hMX]; rfl
                    show q_Ev l G m_md_delete 7 165 0 0 138 [some (.ref (42)), some (.int (nI (j))), some (.int (nI (p))), some (.int (v)), some (.int ((((grT L r (S.1 r) T).2.2.1)) (p)))] [] (md_put h MX) N _
                    refine e_aload_n (pc := 138) d_md_delete_138 rfl ?_
                    refine e_callV (As := []) (st := []) (cc2 := 0) (ss2 := 0) (pc := 139) d_md_delete_139 rfl cv_md_118 md_g42 rfl (c_md_quorum htr hOX.1) rfl (by decide) (by decide) (by omega) (by omega) (Nat.le_of_ble_eq_true rfl) (fun _ _ _ hq => nomatch hq.1) (fun r h2 N2 hq => ?_)
                    obtain ⟨hr, e1, e2⟩ := hq
                    cases hr
                    rw [e1, e2]
                    clear e1 e2
                    show q_Ev l G m_md_delete 7 165 0 0 142 [some (.ref (42)), some (.int (nI (j))), some (.int (nI (p))), some (.int (v)), some (.int ((((grT L r (S.1 r) T).2.2.1)) (p)))] [.int (bI (m_qr MX))] (md_put h MX) N _
                    refine e_ifB_eq (pc := 142) (tgt := 154) d_md_delete_142 (by decide) (fun cq => ?_) (fun cq => ?_)
                    · refine e_aload_n (pc := 154) d_md_delete_154 rfl ?_
                      refine e_iconst (pc := 155) d_md_delete_155 (v := (nI (2))) rfl ?_
                      refine e_callV (As := [.int (nI (2))]) (st := []) (cc2 := 0) (ss2 := 0) (pc := 156) d_md_delete_156 rfl cv_md_149 md_g42 rfl (c_md_fail htr) rfl (by decide) (by decide) (by omega) (by omega) (Nat.le_of_ble_eq_true rfl) (fun _ _ _ hq => nomatch hq.1) (fun r h2 N2 hq => ?_)
                      obtain ⟨hr, e1, e2⟩ := hq
                      cases hr
                      rw [e1, e2]
                      clear e1 e2
                      show q_Ev l G m_md_delete 7 165 0 0 159 [some (.ref (42)), some (.int (nI (j))), some (.int (nI (p))), some (.int (v)), some (.int ((((grT L r (S.1 r) T).2.2.1)) (p)))] [.int (nI (0))] _ N _
                      exact e_iret (pc := 159) d_md_delete_159 rfl (by rw [hr0]; unfold m_delete; rw [if_pos ⟨hs1, hq1, cv⟩, nT_n (by omega), nT_n (by omega), if_pos c1, eP, if_pos ct, if_neg (fun z => z.1 c2), if_neg (fun z => z ck), m_prop_s, if_neg (show ¬ 60 ≤ S.1 r by omega), if_neg (by rw [eQ, cq]; decide)]; unfold m_F; rw [eX]; exact ⟨rfl, rfl, rfl⟩)
                    · refine e_aload_n (pc := 145) d_md_delete_145 rfl ?_
                      refine e_iload (pc := 146) d_md_delete_146 rfl ?_
                      refine e_callV (As := [.int ((((grT L r (S.1 r) T).2.2.1)) (p))]) (st := []) (cc2 := 0) (ss2 := 0) (pc := 148) d_md_delete_148 rfl cv_md_155 md_g42 rfl (c_md_end (A := MX.1) (L := MX.2.1) (S := MX.2.2.1) (C := MX.2.2.2.1) (W := MX.2.2.2.2.1) (T := MX.2.2.2.2.2) htr (show n + 1 ≤ 76 by omega) hOX) rfl (by decide) (by decide) (by omega) (by omega) (Nat.le_of_ble_eq_true rfl) (fun _ _ _ hq => nomatch hq.1) (fun r h2 N2 hq => ?_)
                      obtain ⟨hr, e1, e2⟩ := hq
                      cases hr
                      rw [e1, e2]
                      clear e1 e2
                      show q_Ev l G m_md_delete 7 165 0 0 151 [some (.ref (42)), some (.int (nI (j))), some (.int (nI (p))), some (.int (v)), some (.int ((((grT L r (S.1 r) T).2.2.1)) (p)))] [.int ((grT L r (S.1 r) T).2.2.1 p)] _ N _
                      refine e_goto (pc := 151) (tgt := 159) d_md_delete_151 (by decide) ?_
                      exact e_iret (pc := 159) d_md_delete_159 rfl (by rw [hr0]; unfold m_delete; rw [if_pos ⟨hs1, hq1, cv⟩, nT_n (by omega), nT_n (by omega), if_pos c1, eP, if_pos ct, if_neg (fun z => z.1 c2), if_neg (fun z => z ck), m_prop_s, if_neg (show ¬ 60 ≤ S.1 r by omega), if_pos (by rw [eQ, cq])]; unfold m_E; rw [eX, eF]; exact ⟨rfl, rfl, rfl⟩)
                  · refine e_aload_n (pc := 124) d_md_delete_124 rfl ?_
                    refine e_iconst (pc := 125) d_md_delete_125 (v := (nI (2))) rfl ?_
                    refine e_callV (As := [.int (nI (2))]) (st := []) (cc2 := 0) (ss2 := 0) (pc := 126) d_md_delete_126 rfl cv_md_149 md_g42 rfl (c_md_fail htr) rfl (by decide) (by decide) (by omega) (by omega) (Nat.le_of_ble_eq_true rfl) (fun _ _ _ hq => nomatch hq.1) (fun r h2 N2 hq => ?_)
                    obtain ⟨hr, e1, e2⟩ := hq
                    cases hr
                    rw [e1, e2]
                    clear e1 e2
                    show q_Ev l G m_md_delete 7 165 0 0 129 [some (.ref (42)), some (.int (nI (j))), some (.int (nI (p))), some (.int (v)), some (.int ((((grT L r (S.1 r) T).2.2.1)) (p)))] [.int (nI (0))] _ N _
                    exact e_iret (pc := 129) d_md_delete_129 rfl (by rw [hr0]; unfold m_delete; rw [if_pos ⟨hs1, hq1, cv⟩, nT_n (by omega), nT_n (by omega), if_pos c1, eP, if_pos ct, if_neg (fun z => z.1 c2), if_neg (fun z => z ck), m_prop_s, if_pos c60]; exact ⟨rfl, rfl, rfl⟩)
                · refine e_aload_n (pc := 104) d_md_delete_104 rfl ?_
                  refine e_iconst (pc := 105) d_md_delete_105 (v := (nI (4))) rfl ?_
                  refine e_callV (As := [.int (nI (4))]) (st := []) (cc2 := 0) (ss2 := 0) (pc := 106) d_md_delete_106 rfl cv_md_149 md_g42 rfl (c_md_fail htr) rfl (by decide) (by decide) (by omega) (by omega) (Nat.le_of_ble_eq_true rfl) (fun _ _ _ hq => nomatch hq.1) (fun r h2 N2 hq => ?_)
                  obtain ⟨hr, e1, e2⟩ := hq
                  cases hr
                  rw [e1, e2]
                  clear e1 e2
                  show q_Ev l G m_md_delete 7 165 0 0 109 [some (.ref (42)), some (.int (nI (j))), some (.int (nI (p))), some (.int (v)), some (.int ((((grT L r (S.1 r) T).2.2.1)) (p)))] [.int (nI (0))] _ N _
                  exact e_iret (pc := 109) d_md_delete_109 rfl (by rw [hr0]; unfold m_delete; rw [if_pos ⟨hs1, hq1, cv⟩, nT_n (by omega), nT_n (by omega), if_pos c1, eP, if_pos ct, if_neg (fun z => z.1 c2), if_pos ck]; exact ⟨rfl, rfl, rfl⟩)
              · refine e_iload_n (pc := 83) d_md_delete_83 rfl ?_
                refine e_iload (pc := 84) d_md_delete_84 rfl ?_
                refine e_icmp_eq (pc := 86) (tgt := 96) d_md_delete_86 (by decide) (fun c3 => ?_) (fun c3 => ?_)
                · refine e_aload_n (pc := 96) d_md_delete_96 rfl ?_
                  refine e_iload_n (pc := 97) d_md_delete_97 rfl ?_
                  refine e_callV (As := [.int (nI (p))]) (st := []) (cc2 := 0) (ss2 := 0) (pc := 98) d_md_delete_98 rfl cv_md_164 md_g42 rfl (c_md_childrenOf htr (show p < 259 by omega)) rfl (by decide) (by decide) (by omega) (by omega) (Nat.le_of_ble_eq_true rfl) (fun _ _ _ hq => nomatch hq.1) (fun r h2 N2 hq => ?_)
                  obtain ⟨hr, e1, e2⟩ := hq
                  cases hr
                  rw [e1, e2]
                  clear e1 e2
                  show q_Ev l G m_md_delete 7 165 0 0 101 [some (.ref (42)), some (.int (nI (j))), some (.int (nI (p))), some (.int (v)), some (.int ((((grT L r (S.1 r) T).2.2.1)) (p)))] [.int (if p < 43 then kidB (grT L r (S.1 r) T).1 p 6 else nI 0)] (md_put h (((nI (0)), (some r), ep, tm), ((L.1), (L.2.1), (L.2.2.1), (L.2.2.2)), ((S.1), (S.2.1), (S.2.2.1), (S.2.2.2.1), (S.2.2.2.2)), ((C.1), (C.2.1), (C.2.2.1), (C.2.2.2.1), (C.2.2.2.2)), ((W.1), (W.2.1), (W.2.2.1), (W.2.2.2)), (((grT L r (S.1 r) T).1), ((grT L r (S.1 r) T).2.1), ((grT L r (S.1 r) T).2.2.1), ((grT L r (S.1 r) T).2.2.2.1), ((grT L r (S.1 r) T).2.2.2.2)))) N _
                  refine e_if_eq (pc := 101) (tgt := 110) d_md_delete_101 (by decide) (fun ck => ?_) (fun ck => ?_)
                  · refine e_aload_n (pc := 110) d_md_delete_110 rfl ?_
                    refine e_get (pc := 111) d_md_delete_111 fl_md_22 md_g42 rfl ?_
                    refine e_aload_n (pc := 114) d_md_delete_114 rfl ?_
                    refine e_get (pc := 115) d_md_delete_115 fl_md_105 md_g42 rfl ?_
                    refine e_naldN (pc := 118) d_md_delete_118 (f := (S.1)) md_g47 (by omega) (by decide) ?_
                    refine e_bipush (pc := 119) d_md_delete_119 (v := (nI (60))) rfl ?_
                    refine e_icmp_ltN (pc := 121) (tgt := 130) d_md_delete_121 (by decide) (by omega) (by decide) (fun c60 => ?_) (fun c60 => ?_)
                    · refine e_aload_n (pc := 130) d_md_delete_130 rfl ?_
                      refine e_iconst (pc := 131) d_md_delete_131 (v := (nI (3))) rfl ?_
                      refine e_iload_n (pc := 132) d_md_delete_132 rfl ?_
                      refine e_iconst (pc := 133) d_md_delete_133 (v := (nI (0))) rfl ?_
                      refine e_iconst (pc := 134) d_md_delete_134 (v := (-1)) rfl ?_
                      have hx9 : mEx (3, p, nI 0, -1) := ⟨show (3 : Nat) ≤ 4 by decide, show p < 259 by omega, fun z => absurd (show (3 : Nat) = 1 from z) (by decide)⟩
                      refine e_callV (As := [.int (nI (3)), .int (nI (p)), .int (nI (0)), .int (-1)]) (st := []) (cc2 := 0) (ss2 := 0) (pc := 135) d_md_delete_135 rfl cv_md_134 md_g42 rfl (c_md_propose (n := n) htr (show n < 80 by omega) hr hO.2.1 hO.2.2.1 hO.2.2.2 hx9) rfl (by decide) (by decide) (by omega) (by omega) (Nat.le_of_ble_eq_true rfl) (fun _ _ _ hq => nomatch hq.1) (fun r h2 N2 hq => ?_)
                      obtain ⟨hr, e1, e2⟩ := hq
                      cases hr
                      rw [e1, e2]
                      clear e1 e2
                      show q_Ev l G m_md_delete 7 165 0 0 138 [some (.ref (42)), some (.int (nI (j))), some (.int (nI (p))), some (.int (v)), some (.int ((((grT L r (S.1 r) T).2.2.1)) (p)))] [] _ N _
                      obtain ⟨MX, hMX⟩ : ∃ M, M = prM (3, p, nI 0, -1) ((nI 0, some r, ep, tm), L, S, C, W, (grT L r (S.1 r) T)) := ⟨_, rfl⟩
                      refine q_Ev.hp (h1 := md_put h MX) (show md_put h MX = md_put h (prM (3, p, nI 0, -1) ((nI 0, some r, ep, tm), L, S, C, W, (grT L r (S.1 r) T))) from congrArg _ hMX) ?_
                      have hOX : mOK (n + 1) MX := by rw [hMX]; exact (prM_ok (M := ((nI 0, some r, ep, tm), L, S, C, W, (grT L r (S.1 r) T))) ⟨hO.1, hO.2.1, hO.2.2.1, hO.2.2.2⟩ (by omega) hx9).1
                      have eX : ∀ c, m_fa c (prM (3, p, nI 0, -1) ((fa, some r, ep, tm), L, S, C, W, (grT L r (S.1 r) T))) = m_fa c MX := fun c => by rw [hMX, prM_fa, prM_fa]
                      have eQ : m_qr (prM (3, p, nI 0, -1) ((fa, some r, ep, tm), L, S, C, W, (grT L r (S.1 r) T))) = m_qr MX := by rw [hMX]; rfl
                      have eF : m_fa (nI 0) MX = MX := by rw [hMX]; rfl
                      show q_Ev l G m_md_delete 7 165 0 0 138 [some (.ref (42)), some (.int (nI (j))), some (.int (nI (p))), some (.int (v)), some (.int ((((grT L r (S.1 r) T).2.2.1)) (p)))] [] (md_put h MX) N _
                      refine e_aload_n (pc := 138) d_md_delete_138 rfl ?_
                      refine e_callV (As := []) (st := []) (cc2 := 0) (ss2 := 0) (pc := 139) d_md_delete_139 rfl cv_md_118 md_g42 rfl (c_md_quorum htr hOX.1) rfl (by decide) (by decide) (by omega) (by omega) (Nat.le_of_ble_eq_true rfl) (fun _ _ _ hq => nomatch hq.1) (fun r h2 N2 hq => ?_)
                      obtain ⟨hr, e1, e2⟩ := hq
                      cases hr
                      rw [e1, e2]
                      clear e1 e2
                      show q_Ev l G m_md_delete 7 165 0 0 142 [some (.ref (42)), some (.int (nI (j))), some (.int (nI (p))), some (.int (v)), some (.int ((((grT L r (S.1 r) T).2.2.1)) (p)))] [.int (bI (m_qr MX))] (md_put h MX) N _
                      refine e_ifB_eq (pc := 142) (tgt := 154) d_md_delete_142 (by decide) (fun cq => ?_) (fun cq => ?_)
                      · refine e_aload_n (pc := 154) d_md_delete_154 rfl ?_
                        refine e_iconst (pc := 155) d_md_delete_155 (v := (nI (2))) rfl ?_
                        refine e_callV (As := [.int (nI (2))]) (st := []) (cc2 := 0) (ss2 := 0) (pc := 156) d_md_delete_156 rfl cv_md_149 md_g42 rfl (c_md_fail htr) rfl (by decide) (by decide) (by omega) (by omega) (Nat.le_of_ble_eq_true rfl) (fun _ _ _ hq => nomatch hq.1) (fun r h2 N2 hq => ?_)
                        obtain ⟨hr, e1, e2⟩ := hq
                        cases hr
                        rw [e1, e2]
                        clear e1 e2
                        show q_Ev l G m_md_delete 7 165 0 0 159 [some (.ref (42)), some (.int (nI (j))), some (.int (nI (p))), some (.int (v)), some (.int ((((grT L r (S.1 r) T).2.2.1)) (p)))] [.int (nI (0))] _ N _
                        exact e_iret (pc := 159) d_md_delete_159 rfl (by rw [hr0]; unfold m_delete; rw [if_pos ⟨hs1, hq1, cv⟩, nT_n (by omega), nT_n (by omega), if_pos c1, eP, if_pos ct, if_neg (fun z => z.2 c3), if_neg (fun z => z ck), m_prop_s, if_neg (show ¬ 60 ≤ S.1 r by omega), if_neg (by rw [eQ, cq]; decide)]; unfold m_F; rw [eX]; exact ⟨rfl, rfl, rfl⟩)
                      · refine e_aload_n (pc := 145) d_md_delete_145 rfl ?_
                        refine e_iload (pc := 146) d_md_delete_146 rfl ?_
                        refine e_callV (As := [.int ((((grT L r (S.1 r) T).2.2.1)) (p))]) (st := []) (cc2 := 0) (ss2 := 0) (pc := 148) d_md_delete_148 rfl cv_md_155 md_g42 rfl (c_md_end (A := MX.1) (L := MX.2.1) (S := MX.2.2.1) (C := MX.2.2.2.1) (W := MX.2.2.2.2.1) (T := MX.2.2.2.2.2) htr (show n + 1 ≤ 76 by omega) hOX) rfl (by decide) (by decide) (by omega) (by omega) (Nat.le_of_ble_eq_true rfl) (fun _ _ _ hq => nomatch hq.1) (fun r h2 N2 hq => ?_)
                        obtain ⟨hr, e1, e2⟩ := hq
                        cases hr
                        rw [e1, e2]
                        clear e1 e2
                        show q_Ev l G m_md_delete 7 165 0 0 151 [some (.ref (42)), some (.int (nI (j))), some (.int (nI (p))), some (.int (v)), some (.int ((((grT L r (S.1 r) T).2.2.1)) (p)))] [.int ((grT L r (S.1 r) T).2.2.1 p)] _ N _
                        refine e_goto (pc := 151) (tgt := 159) d_md_delete_151 (by decide) ?_
                        exact e_iret (pc := 159) d_md_delete_159 rfl (by rw [hr0]; unfold m_delete; rw [if_pos ⟨hs1, hq1, cv⟩, nT_n (by omega), nT_n (by omega), if_pos c1, eP, if_pos ct, if_neg (fun z => z.2 c3), if_neg (fun z => z ck), m_prop_s, if_neg (show ¬ 60 ≤ S.1 r by omega), if_pos (by rw [eQ, cq])]; unfold m_E; rw [eX, eF]; exact ⟨rfl, rfl, rfl⟩)
                    · refine e_aload_n (pc := 124) d_md_delete_124 rfl ?_
                      refine e_iconst (pc := 125) d_md_delete_125 (v := (nI (2))) rfl ?_
                      refine e_callV (As := [.int (nI (2))]) (st := []) (cc2 := 0) (ss2 := 0) (pc := 126) d_md_delete_126 rfl cv_md_149 md_g42 rfl (c_md_fail htr) rfl (by decide) (by decide) (by omega) (by omega) (Nat.le_of_ble_eq_true rfl) (fun _ _ _ hq => nomatch hq.1) (fun r h2 N2 hq => ?_)
                      obtain ⟨hr, e1, e2⟩ := hq
                      cases hr
                      rw [e1, e2]
                      clear e1 e2
                      show q_Ev l G m_md_delete 7 165 0 0 129 [some (.ref (42)), some (.int (nI (j))), some (.int (nI (p))), some (.int (v)), some (.int ((((grT L r (S.1 r) T).2.2.1)) (p)))] [.int (nI (0))] _ N _
                      exact e_iret (pc := 129) d_md_delete_129 rfl (by rw [hr0]; unfold m_delete; rw [if_pos ⟨hs1, hq1, cv⟩, nT_n (by omega), nT_n (by omega), if_pos c1, eP, if_pos ct, if_neg (fun z => z.2 c3), if_neg (fun z => z ck), m_prop_s, if_pos c60]; exact ⟨rfl, rfl, rfl⟩)
                  · refine e_aload_n (pc := 104) d_md_delete_104 rfl ?_
                    refine e_iconst (pc := 105) d_md_delete_105 (v := (nI (4))) rfl ?_
                    refine e_callV (As := [.int (nI (4))]) (st := []) (cc2 := 0) (ss2 := 0) (pc := 106) d_md_delete_106 rfl cv_md_149 md_g42 rfl (c_md_fail htr) rfl (by decide) (by decide) (by omega) (by omega) (Nat.le_of_ble_eq_true rfl) (fun _ _ _ hq => nomatch hq.1) (fun r h2 N2 hq => ?_)
                    obtain ⟨hr, e1, e2⟩ := hq
                    cases hr
                    rw [e1, e2]
                    clear e1 e2
                    show q_Ev l G m_md_delete 7 165 0 0 109 [some (.ref (42)), some (.int (nI (j))), some (.int (nI (p))), some (.int (v)), some (.int ((((grT L r (S.1 r) T).2.2.1)) (p)))] [.int (nI (0))] _ N _
                    exact e_iret (pc := 109) d_md_delete_109 rfl (by rw [hr0]; unfold m_delete; rw [if_pos ⟨hs1, hq1, cv⟩, nT_n (by omega), nT_n (by omega), if_pos c1, eP, if_pos ct, if_neg (fun z => z.2 c3), if_pos ck]; exact ⟨rfl, rfl, rfl⟩)
                · refine e_aload_n (pc := 89) d_md_delete_89 rfl ?_
                  refine e_bipush (pc := 90) d_md_delete_90 (v := (-2)) rfl ?_
                  refine e_callV (As := [.int (-2)]) (st := []) (cc2 := 0) (ss2 := 0) (pc := 92) d_md_delete_92 rfl cv_md_155 md_g42 rfl (c_md_end htr (show _ ≤ 76 by omega) ⟨hO.1, hO.2.1, hO.2.2.1, hO.2.2.2⟩) rfl (by decide) (by decide) (by omega) (by omega) (Nat.le_of_ble_eq_true rfl) (fun _ _ _ hq => nomatch hq.1) (fun r h2 N2 hq => ?_)
                  obtain ⟨hr, e1, e2⟩ := hq
                  cases hr
                  rw [e1, e2]
                  clear e1 e2
                  show q_Ev l G m_md_delete 7 165 0 0 95 [some (.ref (42)), some (.int (nI (j))), some (.int (nI (p))), some (.int (v)), some (.int ((((grT L r (S.1 r) T).2.2.1)) (p)))] [.int (-2)] _ N _
                  exact e_iret (pc := 95) d_md_delete_95 rfl (by rw [hr0]; unfold m_delete; rw [if_pos ⟨hs1, hq1, cv⟩, nT_n (by omega), nT_n (by omega), if_pos c1, eP, if_pos ct, if_pos ⟨c2, c3⟩]; exact ⟨rfl, rfl, rfl⟩)
            · refine e_aload_n (pc := 64) d_md_delete_64 rfl ?_
              refine e_iconst (pc := 65) d_md_delete_65 (v := (nI (3))) rfl ?_
              refine e_callV (As := [.int (nI (3))]) (st := []) (cc2 := 0) (ss2 := 0) (pc := 66) d_md_delete_66 rfl cv_md_149 md_g42 rfl (c_md_fail htr) rfl (by decide) (by decide) (by omega) (by omega) (Nat.le_of_ble_eq_true rfl) (fun _ _ _ hq => nomatch hq.1) (fun r h2 N2 hq => ?_)
              obtain ⟨hr, e1, e2⟩ := hq
              cases hr
              rw [e1, e2]
              clear e1 e2
              show q_Ev l G m_md_delete 7 165 0 0 69 [some (.ref (42)), some (.int (nI (j))), some (.int (nI (p))), some (.int (v)), none] [.int (nI (0))] _ N _
              exact e_iret (pc := 69) d_md_delete_69 rfl (by rw [hr0]; unfold m_delete; rw [if_pos ⟨hs1, hq1, cv⟩, nT_n (by omega), nT_n (by omega), if_pos c1, eP, if_neg (fun z => absurd (ct.symm.trans z) (by decide))]; exact ⟨rfl, rfl, rfl⟩)
          · refine e_aload_n (pc := 45) d_md_delete_45 rfl ?_
            refine e_iconst (pc := 46) d_md_delete_46 (v := (nI (2))) rfl ?_
            refine e_callV (As := [.int (nI (2))]) (st := []) (cc2 := 0) (ss2 := 0) (pc := 47) d_md_delete_47 rfl cv_md_149 md_g42 rfl (c_md_fail htr) rfl (by decide) (by decide) (by omega) (by omega) (Nat.le_of_ble_eq_true rfl) (fun _ _ _ hq => nomatch hq.1) (fun r h2 N2 hq => ?_)
            obtain ⟨hr, e1, e2⟩ := hq
            cases hr
            rw [e1, e2]
            clear e1 e2
            show q_Ev l G m_md_delete 7 165 0 0 50 [some (.ref (42)), some (.int (nI (j))), some (.int (nI (p))), some (.int (v)), none] [.int (nI (0))] _ N _
            exact e_iret (pc := 50) d_md_delete_50 rfl (by rw [hr0]; unfold m_delete; rw [if_pos ⟨hs1, hq1, cv⟩, nT_n (by omega), nT_n (by omega), if_neg (fun z => absurd (c1.symm.trans z) (by decide))]; exact ⟨rfl, rfl, rfl⟩)
        · refine e_aload_n (pc := 31) d_md_delete_31 rfl ?_
          refine e_iconst (pc := 32) d_md_delete_32 (v := (nI (1))) rfl ?_
          refine e_callV (As := [.int (nI (1))]) (st := []) (cc2 := 0) (ss2 := 0) (pc := 33) d_md_delete_33 rfl cv_md_149 md_g42 rfl (c_md_fail htr) rfl (by decide) (by decide) (by omega) (by omega) (Nat.le_of_ble_eq_true rfl) (fun _ _ _ hq => nomatch hq.1) (fun r h2 N2 hq => ?_)
          obtain ⟨hr, e1, e2⟩ := hq
          cases hr
          rw [e1, e2]
          clear e1 e2
          show q_Ev l G m_md_delete 7 165 0 0 36 [some (.ref (42)), some (.int (s)), some (.int (q)), some (.int (v)), none] [.int (nI (0))] _ N _
          exact e_iret (pc := 36) d_md_delete_36 rfl (by rw [hr0]; unfold m_delete; rw [if_neg (fun z => cv z.2.2)]; exact ⟨rfl, rfl, rfl⟩)

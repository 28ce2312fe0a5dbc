set_option maxHeartbeats 4000000 in
set_option maxRecDepth 100000 in
theorem c_md_propose {l : Launch} {G : q_G} (htr : l.stackTraces = false) {h : q_H} {N : Nat} {fa : Int32} {r ep : Nat} {tm : Int32} {L : mL} {S : mS} {C : mC} {W : mW} {T : mT} {k p : Nat} {d s : Int32} {n : Nat} (hn : n < 80) (hr : r < 3) (hC : mCo C) (hW : mWo W) (hLo : mLo n L S) (hx : mEx (k, p, d, s)) : q_Met l G m_md_propose 5 118 0 0 [.ref (42), .int (nI (k)), .int (nI (p)), .int (d), .int (s)] (md_put h ((fa, some r, ep, tm), L, S, C, W, T)) N (q_To none (md_put h (prM (k, p, d, s) ((fa, some r, ep, tm), L, S, C, W, T))) N) := by
  refine q_Met.mk htr (by decide +kernel) rfl (List.forall_mem_cons.mpr ⟨rfl, List.forall_mem_cons.mpr ⟨rfl, List.forall_mem_cons.mpr ⟨rfl, List.forall_mem_cons.mpr ⟨rfl, List.forall_mem_cons.mpr ⟨rfl, fun _ h => nomatch h⟩⟩⟩⟩⟩) (Nat.le_of_ble_eq_true rfl) ?_
  have hlr : S.1 r ≤ n := (hLo r hr).1
  refine e_bipush (pc := 0) d_md_propose_0 (v := (nI (80))) rfl ?_
  refine e_aload_n (pc := 2) d_md_propose_2 rfl ?_
  refine e_get (pc := 3) d_md_propose_3 fl_md_105 md_g42 rfl ?_
  refine e_imulN (pc := 6) d_md_propose_6  ?_
  refine e_aload_n (pc := 7) d_md_propose_7 rfl ?_
  refine e_get (pc := 8) d_md_propose_8 fl_md_22 md_g42 rfl ?_
  refine e_aload_n (pc := 11) d_md_propose_11 rfl ?_
  refine e_get (pc := 12) d_md_propose_12 fl_md_105 md_g42 rfl ?_
  refine e_naldN (pc := 15) d_md_propose_15 (f := (S.1)) md_g47 (by omega) (by decide) ?_
  refine e_iaddN (pc := 16) d_md_propose_16  ?_
  refine e_istore (pc := 17) d_md_propose_17 (by decide) ?_
  refine e_aload_n (pc := 19) d_md_propose_19 rfl ?_
  refine e_get (pc := 20) d_md_propose_20 fl_md_7 md_g42 rfl ?_
  refine e_iload (pc := 23) d_md_propose_23 rfl ?_
  refine e_iload_n (pc := 25) d_md_propose_25 rfl ?_
  refine e_nastN (pc := 26) d_md_propose_26 (f := (L.1)) md_g43 (by omega) (by decide) ?_
  rw [md_u43]
  show q_Ev l G m_md_propose 5 118 0 0 27 [some (.ref (42)), some (.int (nI (k))), some (.int (nI (p))), some (.int (d)), some (.int (s)), some (.int (nI (((80) * (r)) + (((S.1)) (r)))))] [] (md_put h ((fa, (some r), ep, tm), ((va_up ((L.1)) (((80) * (r)) + (((S.1)) (r))) (k)), (L.2.1), (L.2.2.1), (L.2.2.2)), ((S.1), (S.2.1), (S.2.2.1), (S.2.2.2.1), (S.2.2.2.2)), ((C.1), (C.2.1), (C.2.2.1), (C.2.2.2.1), (C.2.2.2.2)), ((W.1), (W.2.1), (W.2.2.1), (W.2.2.2)), ((T.1), (T.2.1), (T.2.2.1), (T.2.2.2.1), (T.2.2.2.2)))) N _
  refine e_aload_n (pc := 27) d_md_propose_27 rfl ?_
  refine e_get (pc := 28) d_md_propose_28 fl_md_13 md_g42 rfl ?_
  refine e_iload (pc := 31) d_md_propose_31 rfl ?_
  refine e_iload_n (pc := 33) d_md_propose_33 rfl ?_
  refine e_nastN (pc := 34) d_md_propose_34 (f := (L.2.1)) md_g44 (by omega) (by decide) ?_
  rw [md_u44]
  show q_Ev l G m_md_propose 5 118 0 0 35 [some (.ref (42)), some (.int (nI (k))), some (.int (nI (p))), some (.int (d)), some (.int (s)), some (.int (nI (((80) * (r)) + (((S.1)) (r)))))] [] (md_put h ((fa, (some r), ep, tm), ((va_up ((L.1)) (((80) * (r)) + (((S.1)) (r))) (k)), (va_up ((L.2.1)) (((80) * (r)) + (((S.1)) (r))) (p)), (L.2.2.1), (L.2.2.2)), ((S.1), (S.2.1), (S.2.2.1), (S.2.2.2.1), (S.2.2.2.2)), ((C.1), (C.2.1), (C.2.2.1), (C.2.2.2.1), (C.2.2.2.2)), ((W.1), (W.2.1), (W.2.2.1), (W.2.2.2)), ((T.1), (T.2.1), (T.2.2.1), (T.2.2.2.1), (T.2.2.2.2)))) N _
  refine e_aload_n (pc := 35) d_md_propose_35 rfl ?_
  refine e_get (pc := 36) d_md_propose_36 fl_md_16 md_g42 rfl ?_
  refine e_iload (pc := 39) d_md_propose_39 rfl ?_
  refine e_iload_n (pc := 41) d_md_propose_41 rfl ?_
  refine e_iastN (pc := 42) d_md_propose_42 md_g45 (by omega) (by decide) ?_
  rw [md_u45]
  show q_Ev l G m_md_propose 5 118 0 0 43 [some (.ref (42)), some (.int (nI (k))), some (.int (nI (p))), some (.int (d)), some (.int (s)), some (.int (nI (((80) * (r)) + (((S.1)) (r)))))] [] (md_put h ((fa, (some r), ep, tm), ((va_up ((L.1)) (((80) * (r)) + (((S.1)) (r))) (k)), (va_up ((L.2.1)) (((80) * (r)) + (((S.1)) (r))) (p)), (upd ((L.2.2.1)) (((80) * (r)) + (((S.1)) (r))) ((d))), (L.2.2.2)), ((S.1), (S.2.1), (S.2.2.1), (S.2.2.2.1), (S.2.2.2.2)), ((C.1), (C.2.1), (C.2.2.1), (C.2.2.2.1), (C.2.2.2.2)), ((W.1), (W.2.1), (W.2.2.1), (W.2.2.2)), ((T.1), (T.2.1), (T.2.2.1), (T.2.2.2.1), (T.2.2.2.2)))) N _
  refine e_aload_n (pc := 43) d_md_propose_43 rfl ?_
  refine e_get (pc := 44) d_md_propose_44 fl_md_19 md_g42 rfl ?_
  refine e_iload (pc := 47) d_md_propose_47 rfl ?_
  refine e_iload (pc := 49) d_md_propose_49 rfl ?_
  refine e_iastN (pc := 51) d_md_propose_51 md_g46 (by omega) (by decide) ?_
  rw [md_u46]
  show q_Ev l G m_md_propose 5 118 0 0 52 [some (.ref (42)), some (.int (nI (k))), some (.int (nI (p))), some (.int (d)), some (.int (s)), some (.int (nI (((80) * (r)) + (((S.1)) (r)))))] [] (md_put h ((fa, (some r), ep, tm), ((va_up ((L.1)) (((80) * (r)) + (((S.1)) (r))) (k)), (va_up ((L.2.1)) (((80) * (r)) + (((S.1)) (r))) (p)), (upd ((L.2.2.1)) (((80) * (r)) + (((S.1)) (r))) ((d))), (upd ((L.2.2.2)) (((80) * (r)) + (((S.1)) (r))) ((s)))), ((S.1), (S.2.1), (S.2.2.1), (S.2.2.2.1), (S.2.2.2.2)), ((C.1), (C.2.1), (C.2.2.1), (C.2.2.2.1), (C.2.2.2.2)), ((W.1), (W.2.1), (W.2.2.1), (W.2.2.2)), ((T.1), (T.2.1), (T.2.2.1), (T.2.2.2.1), (T.2.2.2.2)))) N _
  refine e_aload_n (pc := 52) d_md_propose_52 rfl ?_
  refine e_get (pc := 53) d_md_propose_53 fl_md_22 md_g42 rfl ?_
  refine e_aload_n (pc := 56) d_md_propose_56 rfl ?_
  refine e_get (pc := 57) d_md_propose_57 fl_md_105 md_g42 rfl ?_
  refine e_dup2 (pc := 60) d_md_propose_60 rfl rfl ?_
  refine e_naldN (pc := 61) d_md_propose_61 (f := (S.1)) md_g47 (by omega) (by decide) ?_
  refine e_iconst (pc := 62) d_md_propose_62 (v := (nI (1))) rfl ?_
  refine e_iaddN (pc := 63) d_md_propose_63  ?_
  refine e_nastN (pc := 64) d_md_propose_64 (f := (S.1)) md_g47 (by omega) (by decide) ?_
  rw [md_u47]
  show q_Ev l G m_md_propose 5 118 0 0 65 [some (.ref (42)), some (.int (nI (k))), some (.int (nI (p))), some (.int (d)), some (.int (s)), some (.int (nI (((80) * (r)) + (((S.1)) (r)))))] [] (md_put h ((fa, (some r), ep, tm), ((va_up ((L.1)) (((80) * (r)) + (((S.1)) (r))) (k)), (va_up ((L.2.1)) (((80) * (r)) + (((S.1)) (r))) (p)), (upd ((L.2.2.1)) (((80) * (r)) + (((S.1)) (r))) ((d))), (upd ((L.2.2.2)) (((80) * (r)) + (((S.1)) (r))) ((s)))), ((va_up ((S.1)) (r) ((((S.1)) (r)) + (1))), (S.2.1), (S.2.2.1), (S.2.2.2.1), (S.2.2.2.2)), ((C.1), (C.2.1), (C.2.2.1), (C.2.2.2.1), (C.2.2.2.2)), ((W.1), (W.2.1), (W.2.2.1), (W.2.2.2)), ((T.1), (T.2.1), (T.2.2.1), (T.2.2.2.1), (T.2.2.2.2)))) N _
  refine e_aload_n (pc := 65) d_md_propose_65 rfl ?_
  refine e_callV (As := []) (st := []) (cc2 := 0) (ss2 := 0) (pc := 66) d_md_propose_66 rfl cv_md_125 md_g42 rfl (c_md_spread (L := sE L (80 * r + S.1 r) (k, p, d, s)) (S := (va_up S.1 r (S.1 r + 1), S.2)) htr hn hr hC hW (mLo_pr hLo hn hr hx)) rfl (by decide) (by decide) (by omega) (by omega) (Nat.le_of_ble_eq_true rfl) (fun _ _ _ hq => nomatch hq.1) (fun r2 h2 N2 hq => ?_)
  obtain ⟨hr2, e1, e2⟩ := hq
  cases hr2
  rw [e1, e2]
  exact e_vret (pc := 69) d_md_propose_69 rfl (⟨rfl, rfl, rfl⟩)
set_option maxHeartbeats 4000000 in
set_option maxRecDepth 100000 in
theorem c_md_planned {l : Launch} {G : q_G} (htr : l.stackTraces = false) {h : q_H} {N : Nat} {fa : Int32} {r ep : Nat} {tm : Int32} {L : mL} {S : mS} {C : mC} {W : mW} {T : mT} {n : Nat} (hn : n ≤ 80) (hr : r < 3) (hC : mCo C) (hW : mWo W) (hLo : mLo n L S) : q_Met l G m_md_planned 4 96 0 0 [.ref (42)] (md_put h ((fa, some r, ep, tm), L, S, C, W, T)) N (q_To none (md_put h (pnM ((fa, some r, ep, tm), L, S, C, W, T))) N) := by
  refine q_Met.mk htr (by decide +kernel) rfl (List.forall_mem_cons.mpr ⟨rfl, fun _ h => nomatch h⟩) (Nat.le_of_ble_eq_true rfl) ?_
  refine e_aload_n (pc := 0) d_md_planned_0 rfl ?_
  refine e_aload_n (pc := 1) d_md_planned_1 rfl ?_
  refine e_get (pc := 2) d_md_planned_2 fl_md_105 md_g42 rfl ?_
  refine e_aload_n (pc := 5) d_md_planned_5 rfl ?_
  refine e_get (pc := 6) d_md_planned_6 fl_md_22 md_g42 rfl ?_
  refine e_aload_n (pc := 9) d_md_planned_9 rfl ?_
  refine e_get (pc := 10) d_md_planned_10 fl_md_105 md_g42 rfl ?_
  refine e_naldN (pc := 13) d_md_planned_13 (f := (S.1)) md_g47 (by omega) (by decide) ?_
  refine e_callV (As := [.int (nI (r)), .int (nI (((S.1)) (r)))]) (st := []) (cc2 := 0) (ss2 := 0) (pc := 14) d_md_planned_14 rfl cv_md_122 md_g42 rfl (c_md_grow htr hC hW hr (Nat.le_trans (hLo r hr).1 hn) (fun k hk => (hLo r hr).2.2 k (Or.inl hk))) rfl (by decide) (by decide) (by omega) (by omega) (Nat.le_of_ble_eq_true rfl) (fun _ _ _ hq => nomatch hq.1) (fun r h2 N2 hq => ?_)
  obtain ⟨hr, e1, e2⟩ := hq
  cases hr
  rw [e1, e2]
  clear e1 e2
  show q_Ev l G m_md_planned 4 96 0 0 17 [some (.ref (42))] [] _ N _
  exact e_vret (pc := 17) d_md_planned_17 rfl (⟨rfl, rfl, rfl⟩)
set_option maxHeartbeats 4000000 in
set_option maxRecDepth 100000 in
theorem lp_md_end {l : Launch} {G : q_G} (htr : l.stackTraces = false) {h : q_H} {N : Nat} {v : Int32} : ∀ (g s n fa ld ep tm) (L : mL) (S : mS) (C : mC) (W : mW) (T : mT), (s + g = 4 ∧ n + g ≤ 80) ∧ mOK n ((fa, ld, ep, tm), L, S, C, W, T) → q_Ev l G m_md_end 6 143 0 0 2 [some (.ref (42)), some (.int (v)), some (.int (nI (s)))] [] (md_put h ((fa, ld, ep, tm), L, S, C, W, T)) N (q_To (some (.int v)) (md_put h (enF g s ((fa, ld, ep, tm), L, S, C, W, T))) N) := by
  intro g
  induction g with
  | zero =>
    intro s n fa ld ep tm L S C W T he
    have hkn : s = 4 := by omega
    subst hkn
    refine e_iload_n (pc := 2) d_md_end_2 rfl ?_
    refine e_iconst (pc := 3) d_md_end_3 (v := (nI (4))) rfl ?_
    refine e_icmp_geN (pc := 4) (tgt := 59) d_md_end_4 (by decide) (by omega) (by omega) (fun c => ?_) (fun c => ?_)
    · refine e_iload_n (pc := 59) d_md_end_59 rfl ?_
      exact e_iret (pc := 60) d_md_end_60 rfl (⟨rfl, rfl, rfl⟩)
    · omega
  | succ g ih =>
    intro s n fa ld ep tm L S C W T he
    obtain ⟨⟨he, hn⟩, hO⟩ := he
    have hO1 := (en1_ok (s := s) hO (by omega)).1
    refine e_iload_n (pc := 2) d_md_end_2 rfl ?_
    refine e_iconst (pc := 3) d_md_end_3 (v := (nI (4))) rfl ?_
    refine e_icmp_geN (pc := 4) (tgt := 59) d_md_end_4 (by decide) (by omega) (by omega) (fun c => ?_) (fun c => ?_)
    · omega
    · simp only [enF]
      refine e_aload_n (pc := 7) d_md_end_7 rfl ?_
      refine e_get (pc := 8) d_md_end_8 fl_md_45 md_g42 rfl ?_
      refine e_iload_n (pc := 11) d_md_end_11 rfl ?_
      refine e_zaldN (pc := 12) d_md_end_12 (f := (C.2.1)) md_g53 (by omega) (by decide) ?_
      refine e_ifB_eq (pc := 13) (tgt := 53) d_md_end_13 (by decide) (fun c1 => ?_) (fun c1 => ?_)
      · have e1 : en1 s ((fa, ld, ep, tm), L, S, C, W, T) = ((fa, ld, ep, tm), L, S, C, W, T) := by unfold en1; rw [if_neg (fun z => by rw [show _ = true from z.1] at c1; exact nomatch c1)]
        rw [e1] at hO1 ⊢
        refine e_iincN (pc := 53) d_md_end_53 (a := s) (b := 1) rfl rfl (by decide) ?_
        refine e_goto (pc := 56) (tgt := 2) d_md_end_56 (by decide) ?_
        exact ih (s + 1) (n + 1) fa ld ep tm L S C W T ⟨⟨by omega, by omega⟩, hO1⟩
      · refine e_aload_n (pc := 16) d_md_end_16 rfl ?_
        refine e_callV (As := []) (st := []) (cc2 := 0) (ss2 := 0) (pc := 17) d_md_end_17 rfl cv_md_118 md_g42 rfl (c_md_quorum htr hO.1) rfl (by decide) (by decide) (by omega) (by omega) (Nat.le_of_ble_eq_true rfl) (fun _ _ _ hq => nomatch hq.1) (fun r h2 N2 hq => ?_)
        obtain ⟨hr, e1, e2⟩ := hq
        cases hr
        rw [e1, e2]
        clear e1 e2
        show q_Ev l G m_md_end 6 143 0 0 20 [some (.ref (42)), some (.int (v)), some (.int (nI (s)))] [.int (bI (k_qr ld S.2.2.2))] (md_put h ((fa, ld, ep, tm), ((L.1), (L.2.1), (L.2.2.1), (L.2.2.2)), ((S.1), (S.2.1), (S.2.2.1), (S.2.2.2.1), (S.2.2.2.2)), ((C.1), (C.2.1), (C.2.2.1), (C.2.2.2.1), (C.2.2.2.2)), ((W.1), (W.2.1), (W.2.2.1), (W.2.2.2)), ((T.1), (T.2.1), (T.2.2.1), (T.2.2.2.1), (T.2.2.2.2)))) N _
        refine e_ifB_ne (pc := 20) (tgt := 26) d_md_end_20 (by decide) (fun c2 => ?_) (fun c2 => ?_)
        · obtain ⟨r, hl⟩ : ∃ r, ld = some r := by cases ld with | none => exact nomatch c2 | some r => exact ⟨r, rfl⟩
          subst hl
          have hr := hO.1 r rfl
          show q_Ev l G m_md_end 6 143 0 0 26 [some (.ref (42)), some (.int (v)), some (.int (nI (s)))] [] (md_put h ((fa, (some r), ep, tm), ((L.1), (L.2.1), (L.2.2.1), (L.2.2.2)), ((S.1), (S.2.1), (S.2.2.1), (S.2.2.2.1), (S.2.2.2.2)), ((C.1), (C.2.1), (C.2.2.1), (C.2.2.2.1), (C.2.2.2.2)), ((W.1), (W.2.1), (W.2.2.1), (W.2.2.2)), ((T.1), (T.2.1), (T.2.2.1), (T.2.2.2.1), (T.2.2.2.2)))) N _
          refine e_aload_n (pc := 26) d_md_end_26 rfl ?_
          refine e_callV (As := []) (st := []) (cc2 := 0) (ss2 := 0) (pc := 27) d_md_end_27 rfl cv_md_128 md_g42 rfl (c_md_planned htr (show n ≤ 80 by omega) hr hO.2.1 hO.2.2.1 hO.2.2.2) rfl (by decide) (by decide) (by omega) (by omega) (Nat.le_of_ble_eq_true rfl) (fun _ _ _ hq => nomatch hq.1) (fun r h2 N2 hq => ?_)
          obtain ⟨hr, e1, e2⟩ := hq
          cases hr
          rw [e1, e2]
          clear e1 e2
          show q_Ev l G m_md_end 6 143 0 0 30 [some (.ref (42)), some (.int (v)), some (.int (nI (s)))] [] _ N _
          show q_Ev l G m_md_end 6 143 0 0 30 [some (.ref (42)), some (.int (v)), some (.int (nI (s)))] [] (md_put h ((fa, (some r), ep, tm), ((L.1), (L.2.1), (L.2.2.1), (L.2.2.2)), ((S.1), (S.2.1), (S.2.2.1), (S.2.2.2.1), (S.2.2.2.2)), ((C.1), (C.2.1), (C.2.2.1), (C.2.2.2.1), (C.2.2.2.2)), ((W.1), (W.2.1), (W.2.2.1), (W.2.2.2)), (((grT L r (S.1 r) T).1), ((grT L r (S.1 r) T).2.1), ((grT L r (S.1 r) T).2.2.1), ((grT L r (S.1 r) T).2.2.2.1), ((grT L r (S.1 r) T).2.2.2.2)))) N _
          refine e_aload_n (pc := 30) d_md_end_30 rfl ?_
          refine e_get (pc := 31) d_md_end_31 fl_md_45 md_g42 rfl ?_
          refine e_iload_n (pc := 34) d_md_end_34 rfl ?_
          refine e_iconst (pc := 35) d_md_end_35 (v := (bI (false))) rfl ?_
          refine e_zastN (pc := 36) d_md_end_36 (f := (C.2.1)) md_g53 (by omega) (by decide) ?_
          rw [md_u53]
          show q_Ev l G m_md_end 6 143 0 0 37 [some (.ref (42)), some (.int (v)), some (.int (nI (s)))] [] (md_put h ((fa, (some r), ep, tm), ((L.1), (L.2.1), (L.2.2.1), (L.2.2.2)), ((S.1), (S.2.1), (S.2.2.1), (S.2.2.2.1), (S.2.2.2.2)), ((C.1), (va_up ((C.2.1)) (s) (false)), (C.2.2.1), (C.2.2.2.1), (C.2.2.2.2)), ((W.1), (W.2.1), (W.2.2.1), (W.2.2.2)), (((grT L r (S.1 r) T).1), ((grT L r (S.1 r) T).2.1), ((grT L r (S.1 r) T).2.2.1), ((grT L r (S.1 r) T).2.2.2.1), ((grT L r (S.1 r) T).2.2.2.2)))) N _
          refine e_aload_n (pc := 37) d_md_end_37 rfl ?_
          refine e_iload_n (pc := 38) d_md_end_38 rfl ?_
          refine e_callV (As := [.int (nI (s))]) (st := []) (cc2 := 0) (ss2 := 0) (pc := 39) d_md_end_39 rfl cv_md_131 md_g42 rfl (c_md_owned htr) rfl (by decide) (by decide) (by omega) (by omega) (Nat.le_of_ble_eq_true rfl) (fun _ _ _ hq => nomatch hq.1) (fun r h2 N2 hq => ?_)
          obtain ⟨hr, e1, e2⟩ := hq
          cases hr
          rw [e1, e2]
          clear e1 e2
          show q_Ev l G m_md_end 6 143 0 0 42 [some (.ref (42)), some (.int (v)), some (.int (nI (s)))] [.int (nI (owT (grT L r (S.1 r) T) (nI s)))] (md_put h ((fa, (some r), ep, tm), ((L.1), (L.2.1), (L.2.2.1), (L.2.2.2)), ((S.1), (S.2.1), (S.2.2.1), (S.2.2.2.1), (S.2.2.2.2)), ((C.1), (va_up ((C.2.1)) (s) (false)), (C.2.2.1), (C.2.2.2.1), (C.2.2.2.2)), ((W.1), (W.2.1), (W.2.2.1), (W.2.2.2)), (((grT L r (S.1 r) T).1), ((grT L r (S.1 r) T).2.1), ((grT L r (S.1 r) T).2.2.1), ((grT L r (S.1 r) T).2.2.2.1), ((grT L r (S.1 r) T).2.2.2.2)))) N _
          have hol : owT (grT L r (S.1 r) T) (nI s) ≤ 259 := cntB_le _ _
          have eP : pnM ((fa, some r, ep, tm), L, S, C, W, T) = ((fa, some r, ep, tm), L, S, C, W, grT L r (S.1 r) T) := rfl
          refine e_if_leN (pc := 42) (tgt := 53) d_md_end_42 (by decide) (by omega) (fun c3 => ?_) (fun c3 => ?_)
          · have e1 : en1 s ((fa, some r, ep, tm), L, S, C, W, T) = m_nd s ((fa, some r, ep, tm), L, S, C, W, grT L r (S.1 r) T) := by unfold en1; rw [if_pos ⟨c1, c2⟩, eP, if_neg (by show ¬ 0 < owT (grT L r (S.1 r) T) (nI s); omega)]
            rw [e1] at hO1 ⊢
            refine e_iincN (pc := 53) d_md_end_53 (a := s) (b := 1) rfl rfl (by decide) ?_
            refine e_goto (pc := 56) (tgt := 2) d_md_end_56 (by decide) ?_
            exact ih (s + 1) (n + 1) fa (some r) ep tm _ _ _ _ _ ⟨⟨by omega, by omega⟩, hO1⟩
          · have e1 : en1 s ((fa, some r, ep, tm), L, S, C, W, T) = prM (4, 0, nI 0, nI s) (m_nd s ((fa, some r, ep, tm), L, S, C, W, grT L r (S.1 r) T)) := by unfold en1; rw [if_pos ⟨c1, c2⟩, eP, if_pos (by show 0 < owT (grT L r (S.1 r) T) (nI s); omega)]
            rw [e1] at hO1 ⊢
            refine e_aload_n (pc := 45) d_md_end_45 rfl ?_
            refine e_iconst (pc := 46) d_md_end_46 (v := (nI (4))) rfl ?_
            refine e_iconst (pc := 47) d_md_end_47 (v := (nI (0))) rfl ?_
            refine e_iconst (pc := 48) d_md_end_48 (v := (nI (0))) rfl ?_
            refine e_iload_n (pc := 49) d_md_end_49 rfl ?_
            refine e_callV (As := [.int (nI (4)), .int (nI (0)), .int (nI (0)), .int (nI (s))]) (st := []) (cc2 := 0) (ss2 := 0) (pc := 50) d_md_end_50 rfl cv_md_134 md_g42 rfl (c_md_propose (k := 4) (p := 0) (d := nI 0) (C := (C.1, va_up C.2.1 s false, C.2.2)) htr (show n < 80 by omega) hr hO.2.1 hO.2.2.1 hO.2.2.2 ⟨Nat.le_refl _, show (0 : Nat) < 259 by decide, fun z => absurd (show (4 : Nat) = 1 from z) (by decide)⟩) rfl (by decide) (by decide) (by omega) (by omega) (Nat.le_of_ble_eq_true rfl) (fun _ _ _ hq => nomatch hq.1) (fun r h2 N2 hq => ?_)
            obtain ⟨hr, e1, e2⟩ := hq
            cases hr
            rw [e1, e2]
            clear e1 e2
            show q_Ev l G m_md_end 6 143 0 0 53 [some (.ref (42)), some (.int (v)), some (.int (nI (s)))] [] _ N _
            refine e_iincN (pc := 53) d_md_end_53 (a := s) (b := 1) rfl rfl (by decide) ?_
            refine e_goto (pc := 56) (tgt := 2) d_md_end_56 (by decide) ?_
            have e4 : ((fa, some r, ep, tm), L, S, (C.1, va_up C.2.1 s false, C.2.2), W, grT L r (S.1 r) T) = m_nd s ((fa, some r, ep, tm), L, S, C, W, grT L r (S.1 r) T) := rfl
            rw [e4]
            rcases hM1 : prM (4, 0, nI 0, nI s) (m_nd s ((fa, some r, ep, tm), L, S, C, W, grT L r (S.1 r) T)) with ⟨⟨fa1, ld1, ep1, tm1⟩, L1, S1, C1, W1, T1⟩
            rw [hM1] at hO1
            exact ih (s + 1) (n + 1) fa1 ld1 ep1 tm1 L1 S1 C1 W1 T1 ⟨⟨by omega, by omega⟩, hO1⟩
        · refine e_goto (pc := 23) (tgt := 53) d_md_end_23 (by decide) ?_
          have e1 : en1 s ((fa, ld, ep, tm), L, S, C, W, T) = ((fa, ld, ep, tm), L, S, C, W, T) := by unfold en1; rw [if_neg (fun z => by rw [show _ = true from z.2] at c2; exact nomatch c2)]
          rw [e1] at hO1 ⊢
          refine e_iincN (pc := 53) d_md_end_53 (a := s) (b := 1) rfl rfl (by decide) ?_
          refine e_goto (pc := 56) (tgt := 2) d_md_end_56 (by decide) ?_
          exact ih (s + 1) (n + 1) fa ld ep tm L S C W T ⟨⟨by omega, by omega⟩, hO1⟩
set_option maxHeartbeats 4000000 in
set_option maxRecDepth 100000 in
theorem c_md_end {l : Launch} {G : q_G} (htr : l.stackTraces = false) {h : q_H} {N : Nat} {A : mA} {L : mL} {S : mS} {C : mC} {W : mW} {T : mT} {v : Int32} {n : Nat} (hn : n ≤ 76) (hO : mOK n (A, L, S, C, W, T)) : q_Met l G m_md_end 6 143 0 0 [.ref (42), .int (v)] (md_put h (A, L, S, C, W, T)) N (q_To (some (.int v)) (md_put h (enF 4 0 (A, L, S, C, W, T))) N) := by
  refine q_Met.mk htr (by decide +kernel) rfl (List.forall_mem_cons.mpr ⟨rfl, List.forall_mem_cons.mpr ⟨rfl, fun _ h => nomatch h⟩⟩) (Nat.le_of_ble_eq_true rfl) ?_
  refine e_iconst (pc := 0) d_md_end_0 (v := (nI (0))) rfl ?_
  refine e_istore_n (pc := 1) d_md_end_1 (by decide) ?_
  obtain ⟨fa, ld, ep, tm⟩ := A
  exact lp_md_end htr 4 0 n fa ld ep tm L S C W T ⟨⟨by omega, by omega⟩, hO⟩

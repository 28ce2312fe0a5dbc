set_option maxHeartbeats 4000000 in
set_option maxRecDepth 100000 in
theorem c_md_copyEntry {l : Launch} {G : q_G} (htr : l.stackTraces = false) {h : q_H} {N : Nat} {A : mA} {L : mL} {S : mS} {C : mC} {W : mW} {T : mT} {f t : Nat} (hf : f < 240) (ht : t < 240) : q_Met l G m_md_copyEntry 0 0 0 0 [.ref (42), .int (nI (f)), .int (nI (t))] (md_put h (A, L, S, C, W, T)) N (q_To (none) (md_put h (A, cpE f t L, S, C, W, T)) N) := by
  refine q_Met.mk htr (by decide +kernel) rfl (List.forall_mem_cons.mpr ⟨rfl, List.forall_mem_cons.mpr ⟨rfl, List.forall_mem_cons.mpr ⟨rfl, fun _ h => nomatch h⟩⟩⟩) (Nat.le_of_ble_eq_true rfl) ?_
  refine e_aload_n (pc := 0) d_md_copyEntry_0 rfl ?_
  refine e_get (pc := 1) d_md_copyEntry_1 fl_md_7 md_g42 rfl ?_
  refine e_iload_n (pc := 4) d_md_copyEntry_4 rfl ?_
  refine e_aload_n (pc := 5) d_md_copyEntry_5 rfl ?_
  refine e_get (pc := 6) d_md_copyEntry_6 fl_md_7 md_g42 rfl ?_
  refine e_iload_n (pc := 9) d_md_copyEntry_9 rfl ?_
  refine e_naldN (pc := 10) d_md_copyEntry_10 (f := (L.1)) md_g43 (by omega) (by decide) ?_
  refine e_nastN (pc := 11) d_md_copyEntry_11 (f := (L.1)) md_g43 (by omega) (by decide) ?_
  rw [md_u43]
  show q_Ev l G m_md_copyEntry 0 0 0 0 12 [some (.ref (42)), some (.int (nI (f))), some (.int (nI (t)))] [] (md_put h (((A.1), (A.2.1), (A.2.2.1), (A.2.2.2)), ((va_up ((L.1)) (t) (((L.1)) (f))), (L.2.1), (L.2.2.1), (L.2.2.2)), ((S.1), (S.2.1), (S.2.2.1), (S.2.2.2.1), (S.2.2.2.2)), ((C.1), (C.2.1), (C.2.2.1), (C.2.2.2.1), (C.2.2.2.2)), ((W.1), (W.2.1), (W.2.2.1), (W.2.2.2)), ((T.1), (T.2.1), (T.2.2.1), (T.2.2.2.1), (T.2.2.2.2)))) N _
  refine e_aload_n (pc := 12) d_md_copyEntry_12 rfl ?_
  refine e_get (pc := 13) d_md_copyEntry_13 fl_md_13 md_g42 rfl ?_
  refine e_iload_n (pc := 16) d_md_copyEntry_16 rfl ?_
  refine e_aload_n (pc := 17) d_md_copyEntry_17 rfl ?_
  refine e_get (pc := 18) d_md_copyEntry_18 fl_md_13 md_g42 rfl ?_
  refine e_iload_n (pc := 21) d_md_copyEntry_21 rfl ?_
  refine e_naldN (pc := 22) d_md_copyEntry_22 (f := (L.2.1)) md_g44 (by omega) (by decide) ?_
  refine e_nastN (pc := 23) d_md_copyEntry_23 (f := (L.2.1)) md_g44 (by omega) (by decide) ?_
  rw [md_u44]
  show q_Ev l G m_md_copyEntry 0 0 0 0 24 [some (.ref (42)), some (.int (nI (f))), some (.int (nI (t)))] [] (md_put h (((A.1), (A.2.1), (A.2.2.1), (A.2.2.2)), ((va_up ((L.1)) (t) (((L.1)) (f))), (va_up ((L.2.1)) (t) (((L.2.1)) (f))), (L.2.2.1), (L.2.2.2)), ((S.1), (S.2.1), (S.2.2.1), (S.2.2.2.1), (S.2.2.2.2)), ((C.1), (C.2.1), (C.2.2.1), (C.2.2.2.1), (C.2.2.2.2)), ((W.1), (W.2.1), (W.2.2.1), (W.2.2.2)), ((T.1), (T.2.1), (T.2.2.1), (T.2.2.2.1), (T.2.2.2.2)))) N _
  refine e_aload_n (pc := 24) d_md_copyEntry_24 rfl ?_
  refine e_get (pc := 25) d_md_copyEntry_25 fl_md_16 md_g42 rfl ?_
  refine e_iload_n (pc := 28) d_md_copyEntry_28 rfl ?_
  refine e_aload_n (pc := 29) d_md_copyEntry_29 rfl ?_
  refine e_get (pc := 30) d_md_copyEntry_30 fl_md_16 md_g42 rfl ?_
  refine e_iload_n (pc := 33) d_md_copyEntry_33 rfl ?_
  refine e_ialdN (pc := 34) d_md_copyEntry_34 (f := (L.2.2.1)) md_g45 (by omega) (by decide) ?_
  refine e_iastN (pc := 35) d_md_copyEntry_35 md_g45 (by omega) (by decide) ?_
  rw [md_u45]
  show q_Ev l G m_md_copyEntry 0 0 0 0 36 [some (.ref (42)), some (.int (nI (f))), some (.int (nI (t)))] [] (md_put h (((A.1), (A.2.1), (A.2.2.1), (A.2.2.2)), ((va_up ((L.1)) (t) (((L.1)) (f))), (va_up ((L.2.1)) (t) (((L.2.1)) (f))), (upd ((L.2.2.1)) (t) ((((L.2.2.1)) (f)))), (L.2.2.2)), ((S.1), (S.2.1), (S.2.2.1), (S.2.2.2.1), (S.2.2.2.2)), ((C.1), (C.2.1), (C.2.2.1), (C.2.2.2.1), (C.2.2.2.2)), ((W.1), (W.2.1), (W.2.2.1), (W.2.2.2)), ((T.1), (T.2.1), (T.2.2.1), (T.2.2.2.1), (T.2.2.2.2)))) N _
  refine e_aload_n (pc := 36) d_md_copyEntry_36 rfl ?_
  refine e_get (pc := 37) d_md_copyEntry_37 fl_md_19 md_g42 rfl ?_
  refine e_iload_n (pc := 40) d_md_copyEntry_40 rfl ?_
  refine e_aload_n (pc := 41) d_md_copyEntry_41 rfl ?_
  refine e_get (pc := 42) d_md_copyEntry_42 fl_md_19 md_g42 rfl ?_
  refine e_iload_n (pc := 45) d_md_copyEntry_45 rfl ?_
  refine e_ialdN (pc := 46) d_md_copyEntry_46 (f := (L.2.2.2)) md_g46 (by omega) (by decide) ?_
  refine e_iastN (pc := 47) d_md_copyEntry_47 md_g46 (by omega) (by decide) ?_
  rw [md_u46]
  show q_Ev l G m_md_copyEntry 0 0 0 0 48 [some (.ref (42)), some (.int (nI (f))), some (.int (nI (t)))] [] (md_put h (((A.1), (A.2.1), (A.2.2.1), (A.2.2.2)), ((va_up ((L.1)) (t) (((L.1)) (f))), (va_up ((L.2.1)) (t) (((L.2.1)) (f))), (upd ((L.2.2.1)) (t) ((((L.2.2.1)) (f)))), (upd ((L.2.2.2)) (t) ((((L.2.2.2)) (f))))), ((S.1), (S.2.1), (S.2.2.1), (S.2.2.2.1), (S.2.2.2.2)), ((C.1), (C.2.1), (C.2.2.1), (C.2.2.2.1), (C.2.2.2.2)), ((W.1), (W.2.1), (W.2.2.1), (W.2.2.2)), ((T.1), (T.2.1), (T.2.2.1), (T.2.2.2.1), (T.2.2.2.2)))) N _
  exact e_vret (pc := 48) d_md_copyEntry_48 rfl (⟨rfl, rfl, rfl⟩)
set_option maxHeartbeats 4000000 in
set_option maxRecDepth 100000 in
theorem lp_md_spread3i {l : Launch} {G : q_G} (htr : l.stackTraces = false) {h : q_H} {N : Nat} {fa : Int32} {r ep : Nat} {tm : Int32} {L : mL} {S : mS} {C : mC} {Q : q_Q} (hC : mCo C) {s : Nat} (hs : s < 3) (hln : S.1 s ≤ 80) (hE : ∀ k, k < S.1 s → mEo L (80 * s + k)) : ∀ (g k : Nat) (W : mW) (T : mT), (g = S.1 s - k ∧ mWo W) → (k ≤ 80) → (∀ W2 T2 k2, (W2, T2) = dnF L C s g k (W, T) → q_Ev l G m_md_spread 4 96 0 0 185 [some (.ref 42), some (.int (nI s)), some (.int (nI k2))] [] (md_put h ((fa, some r, ep, tm), L, S, C, W2, T2)) N Q) → q_Ev l G m_md_spread 4 96 0 0 158 [some (.ref (42)), some (.int (nI (s))), some (.int (nI (k)))] [] (md_put h ((fa, (some r), ep, tm), ((L.1), (L.2.1), (L.2.2.1), (L.2.2.2)), ((S.1), (S.2.1), (S.2.2.1), (S.2.2.2.1), (S.2.2.2.2)), ((C.1), (C.2.1), (C.2.2.1), (C.2.2.2.1), (C.2.2.2.2)), ((W.1), (W.2.1), (W.2.2.1), (W.2.2.2)), ((T.1), (T.2.1), (T.2.2.1), (T.2.2.2.1), (T.2.2.2.2)))) N (Q) := by
  intro g
  induction g with
  | zero =>
    intro k W T he
    intro hk8 kk
    have hkn : S.1 s ≤ k := by omega
    refine e_iload_n (pc := 158) d_md_spread_158 rfl ?_
    refine e_aload_n (pc := 159) d_md_spread_159 rfl ?_
    refine e_get (pc := 160) d_md_spread_160 fl_md_22 md_g42 rfl ?_
    refine e_iload_n (pc := 163) d_md_spread_163 rfl ?_
    refine e_naldN (pc := 164) d_md_spread_164 (f := (S.1)) md_g47 (by omega) (by decide) ?_
    refine e_icmp_geN (pc := 165) (tgt := 185) d_md_spread_165 (by decide) (by omega) (by omega) (fun c => ?_) (fun c => ?_)
    · exact kk W T k rfl
    · omega
  | succ g ih =>
    intro k W T he
    intro hk8 kk
    obtain ⟨he, hW⟩ := he
    refine e_iload_n (pc := 158) d_md_spread_158 rfl ?_
    refine e_aload_n (pc := 159) d_md_spread_159 rfl ?_
    refine e_get (pc := 160) d_md_spread_160 fl_md_22 md_g42 rfl ?_
    refine e_iload_n (pc := 163) d_md_spread_163 rfl ?_
    refine e_naldN (pc := 164) d_md_spread_164 (f := (S.1)) md_g47 (by omega) (by decide) ?_
    refine e_icmp_geN (pc := 165) (tgt := 185) d_md_spread_165 (by decide) (by omega) (by omega) (fun c => ?_) (fun c => ?_)
    · omega
    · refine e_aload_n (pc := 168) d_md_spread_168 rfl ?_
      refine e_bipush (pc := 169) d_md_spread_169 (v := (nI (80))) rfl ?_
      refine e_iload_n (pc := 171) d_md_spread_171 rfl ?_
      refine e_imulN (pc := 172) d_md_spread_172  ?_
      refine e_iload_n (pc := 173) d_md_spread_173 rfl ?_
      refine e_iaddN (pc := 174) d_md_spread_174  ?_
      refine e_iload_n (pc := 175) d_md_spread_175 rfl ?_
      refine e_callV (As := [.int (nI (((80) * (s)) + (k))), .int (nI (s))]) (st := []) (cc2 := 0) (ss2 := 0) (pc := 176) d_md_spread_176 rfl cv_md_98 md_g42 rfl (c_md_done (srv := some s) htr (fun _ z => by cases z; exact hs) hC hW (show 80 * s + k < 240 by omega) (hE k c)) rfl (by decide) (by decide) (by omega) (by omega) (Nat.le_of_ble_eq_true rfl) (fun _ _ _ hq => nomatch hq.1) (fun r h2 N2 hq => ?_)
      obtain ⟨hr, e1, e2⟩ := hq
      cases hr
      rw [e1, e2]
      clear e1 e2
      show q_Ev l G m_md_spread 4 96 0 0 179 [some (.ref (42)), some (.int (nI (s))), some (.int (nI (k)))] [] _ N _
      show q_Ev l G m_md_spread 4 96 0 0 179 [some (.ref (42)), some (.int (nI (s))), some (.int (nI (k)))] [] (md_put h ((fa, (some r), ep, tm), ((L.1), (L.2.1), (L.2.2.1), (L.2.2.2)), ((S.1), (S.2.1), (S.2.2.1), (S.2.2.2.1), (S.2.2.2.2)), ((C.1), (C.2.1), (C.2.2.1), (C.2.2.2.1), (C.2.2.2.2)), (((dnW (some s) C (L.1 (80 * s + k)) (L.2.1 (80 * s + k)) (L.2.2.2 (80 * s + k)) T W).1), ((dnW (some s) C (L.1 (80 * s + k)) (L.2.1 (80 * s + k)) (L.2.2.2 (80 * s + k)) T W).2.1), ((dnW (some s) C (L.1 (80 * s + k)) (L.2.1 (80 * s + k)) (L.2.2.2 (80 * s + k)) T W).2.2.1), ((dnW (some s) C (L.1 (80 * s + k)) (L.2.1 (80 * s + k)) (L.2.2.2 (80 * s + k)) T W).2.2.2)), (((dnL L (80 * s + k) T).1), ((dnL L (80 * s + k) T).2.1), ((dnL L (80 * s + k) T).2.2.1), ((dnL L (80 * s + k) T).2.2.2.1), ((dnL L (80 * s + k) T).2.2.2.2)))) N _
      refine e_iincN (pc := 179) d_md_spread_179 (a := k) (b := 1) rfl rfl (by decide) ?_
      refine e_goto (pc := 182) (tgt := 158) d_md_spread_182 (by decide) ?_
      exact ih (k + 1) _ _ ⟨by omega, dnW_o hW⟩ (by omega) (fun W2 T2 k2 e2 => kk W2 T2 k2 e2)
set_option maxHeartbeats 4000000 in
set_option maxRecDepth 100000 in
theorem lp_md_spread3 {l : Launch} {G : q_G} (htr : l.stackTraces = false) {h : q_H} {N : Nat} {fa : Int32} {r ep : Nat} {tm : Int32} {L : mL} {S : mS} {C : mC} {n : Nat} (hn : n ≤ 80) (hr : r < 3) (hC : mCo C) (hq : k_qr (some r) S.2.2.2 = true) : ∀ (g s : Nat) (ap : Nat → Nat) (W : mW) (T : mT) (x2 : Option Value), (s + g = 3 ∧ mWo W) ∧ mLo n L (S.1, ap, S.2.2) → q_Ev l G m_md_spread 4 96 0 0 117 [some (.ref (42)), some (.int (nI (s))), x2] [] (md_put h ((fa, (some r), ep, tm), ((L.1), (L.2.1), (L.2.2.1), (L.2.2.2)), ((S.1), ap, (S.2.2.1), (S.2.2.2.1), (S.2.2.2.2)), ((C.1), (C.2.1), (C.2.2.1), (C.2.2.2.1), (C.2.2.2.2)), ((W.1), (W.2.1), (W.2.2.1), (W.2.2.2)), ((T.1), (T.2.1), (T.2.2.1), (T.2.2.2.1), (T.2.2.2.2)))) N (q_To none (md_put h ((fa, some r, ep, tm), L, (S.1, (s3F L C S.1 r S.2.2.2 g s (ap, W, T)).1, S.2.2), C, (s3F L C S.1 r S.2.2.2 g s (ap, W, T)).2)) N) := by
  intro g
  induction g with
  | zero =>
    intro s ap W T x2 he
    have hkn : s = 3 := by omega
    subst hkn
    refine e_iload_n (pc := 117) d_md_spread_117 rfl ?_
    refine e_iconst (pc := 118) d_md_spread_118 (v := (nI (3))) rfl ?_
    refine e_icmp_geN (pc := 119) (tgt := 203) d_md_spread_119 (by decide) (by omega) (by omega) (fun c => ?_) (fun c => ?_)
    · exact e_vret (pc := 203) d_md_spread_203 rfl (⟨rfl, rfl, rfl⟩)
    · omega
  | succ g ih =>
    intro s ap W T x2 he
    obtain ⟨⟨he, hW⟩, hLo⟩ := he
    refine e_iload_n (pc := 117) d_md_spread_117 rfl ?_
    refine e_iconst (pc := 118) d_md_spread_118 (v := (nI (3))) rfl ?_
    refine e_icmp_geN (pc := 119) (tgt := 203) d_md_spread_119 (by decide) (by omega) (by omega) (fun c => ?_) (fun c => ?_)
    · omega
    · have h1 := hLo s c
      have hapn : ap s ≤ n := h1.2.1
      have hlnn : S.1 s ≤ n := h1.1
      refine e_aload_n (pc := 122) d_md_spread_122 rfl ?_
      refine e_callV (As := []) (st := []) (cc2 := 0) (ss2 := 0) (pc := 123) d_md_spread_123 rfl cv_md_118 md_g42 rfl (c_md_quorum htr (fun k hk => by cases hk; exact hr)) rfl (by decide) (by decide) (by omega) (by omega) (Nat.le_of_ble_eq_true rfl) (fun _ _ _ hq => nomatch hq.1) (fun r h2 N2 hq => ?_)
      obtain ⟨hr, e1, e2⟩ := hq
      cases hr
      rw [e1, e2]
      clear e1 e2
      show q_Ev l G m_md_spread 4 96 0 0 126 [some (.ref (42)), some (.int (nI (s))), x2] [.int (bI (k_qr (some r) S.2.2.2))] (md_put h ((fa, (some r), ep, tm), ((L.1), (L.2.1), (L.2.2.1), (L.2.2.2)), ((S.1), ap, (S.2.2.1), (S.2.2.2.1), (S.2.2.2.2)), ((C.1), (C.2.1), (C.2.2.1), (C.2.2.2.1), (C.2.2.2.2)), ((W.1), (W.2.1), (W.2.2.1), (W.2.2.2)), ((T.1), (T.2.1), (T.2.2.1), (T.2.2.2.1), (T.2.2.2.2)))) N _
      refine e_ifB_eq (pc := 126) (tgt := 203) d_md_spread_126 (by decide) (fun c1 => ?_) (fun c1 => ?_)
      · rw [hq] at c1; exact nomatch c1
      · refine e_aload_n (pc := 129) d_md_spread_129 rfl ?_
        refine e_iload_n (pc := 130) d_md_spread_130 rfl ?_
        refine e_callV (As := [.int (nI (s))]) (st := []) (cc2 := 0) (ss2 := 0) (pc := 131) d_md_spread_131 rfl cv_md_112 md_g42 rfl (c_md_linked htr (fun k hk => by cases hk; exact hr) c) rfl (by decide) (by decide) (by omega) (by omega) (Nat.le_of_ble_eq_true rfl) (fun _ _ _ hq => nomatch hq.1) (fun r h2 N2 hq => ?_)
        obtain ⟨hr, e1, e2⟩ := hq
        cases hr
        rw [e1, e2]
        clear e1 e2
        show q_Ev l G m_md_spread 4 96 0 0 134 [some (.ref (42)), some (.int (nI (s))), x2] [.int (bI (k_lk (some r) S.2.2.2 s))] (md_put h ((fa, (some r), ep, tm), ((L.1), (L.2.1), (L.2.2.1), (L.2.2.2)), ((S.1), ap, (S.2.2.1), (S.2.2.2.1), (S.2.2.2.2)), ((C.1), (C.2.1), (C.2.2.1), (C.2.2.2.1), (C.2.2.2.2)), ((W.1), (W.2.1), (W.2.2.1), (W.2.2.2)), ((T.1), (T.2.1), (T.2.2.1), (T.2.2.2.1), (T.2.2.2.2)))) N _
        refine e_ifB_ne (pc := 134) (tgt := 140) d_md_spread_134 (by decide) (fun c2 => ?_) (fun c2 => ?_)
        · refine e_aload_n (pc := 140) d_md_spread_140 rfl ?_
          refine e_iload_n (pc := 141) d_md_spread_141 rfl ?_
          refine e_aload_n (pc := 142) d_md_spread_142 rfl ?_
          refine e_get (pc := 143) d_md_spread_143 fl_md_25 md_g42 rfl ?_
          refine e_iload_n (pc := 146) d_md_spread_146 rfl ?_
          refine e_naldN (pc := 147) d_md_spread_147 (f := ap) md_g48 (by omega) (by decide) ?_
          refine e_callV (As := [.int (nI (s)), .int (nI ((ap) (s)))]) (st := []) (cc2 := 0) (ss2 := 0) (pc := 148) d_md_spread_148 rfl cv_md_122 md_g42 rfl (c_md_grow htr hC hW c (show ap s ≤ 80 by omega) (fun k hk => h1.2.2 k (Or.inr hk))) rfl (by decide) (by decide) (by omega) (by omega) (Nat.le_of_ble_eq_true rfl) (fun _ _ _ hq => nomatch hq.1) (fun r h2 N2 hq => ?_)
          obtain ⟨hr, e1, e2⟩ := hq
          cases hr
          rw [e1, e2]
          clear e1 e2
          show q_Ev l G m_md_spread 4 96 0 0 151 [some (.ref (42)), some (.int (nI (s))), x2] [] _ N _
          show q_Ev l G m_md_spread 4 96 0 0 151 [some (.ref (42)), some (.int (nI (s))), x2] [] (md_put h ((fa, (some r), ep, tm), ((L.1), (L.2.1), (L.2.2.1), (L.2.2.2)), ((S.1), ap, (S.2.2.1), (S.2.2.2.1), (S.2.2.2.2)), ((C.1), (C.2.1), (C.2.2.1), (C.2.2.2.1), (C.2.2.2.2)), ((W.1), (W.2.1), (W.2.2.1), (W.2.2.2)), (((grT L s (ap s) T).1), ((grT L s (ap s) T).2.1), ((grT L s (ap s) T).2.2.1), ((grT L s (ap s) T).2.2.2.1), ((grT L s (ap s) T).2.2.2.2)))) N _
          refine e_aload_n (pc := 151) d_md_spread_151 rfl ?_
          refine e_get (pc := 152) d_md_spread_152 fl_md_25 md_g42 rfl ?_
          refine e_iload_n (pc := 155) d_md_spread_155 rfl ?_
          refine e_naldN (pc := 156) d_md_spread_156 (f := ap) md_g48 (by omega) (by decide) ?_
          refine e_istore_n (pc := 157) d_md_spread_157 (by decide) ?_
          have hdo := dnF_o (L := L) (C := C) (s := s) (g := S.1 s - ap s) (k := ap s) (X := (W, grT L s (ap s) T)) hW
          refine lp_md_spread3i (S := (S.1, ap, S.2.2)) htr hC c (show S.1 s ≤ 80 by omega) (fun k hk => h1.2.2 k (Or.inl hk)) (S.1 s - ap s) (ap s) W _ ⟨rfl, hW⟩ (by omega) (fun W2 T2 k2 e2 => ?_)
          have hW2 : mWo W2 := by rw [← e2] at hdo; exact hdo
          show q_Ev l G m_md_spread 4 96 0 0 185 [some (.ref (42)), some (.int (nI (s))), some (.int (nI (k2)))] [] (md_put h ((fa, (some r), ep, tm), ((L.1), (L.2.1), (L.2.2.1), (L.2.2.2)), ((S.1), ap, (S.2.2.1), (S.2.2.2.1), (S.2.2.2.2)), ((C.1), (C.2.1), (C.2.2.1), (C.2.2.2.1), (C.2.2.2.2)), ((W2.1), (W2.2.1), (W2.2.2.1), (W2.2.2.2)), ((T2.1), (T2.2.1), (T2.2.2.1), (T2.2.2.2.1), (T2.2.2.2.2)))) N _
          refine e_aload_n (pc := 185) d_md_spread_185 rfl ?_
          refine e_get (pc := 186) d_md_spread_186 fl_md_25 md_g42 rfl ?_
          refine e_iload_n (pc := 189) d_md_spread_189 rfl ?_
          refine e_aload_n (pc := 190) d_md_spread_190 rfl ?_
          refine e_get (pc := 191) d_md_spread_191 fl_md_22 md_g42 rfl ?_
          refine e_iload_n (pc := 194) d_md_spread_194 rfl ?_
          refine e_naldN (pc := 195) d_md_spread_195 (f := (S.1)) md_g47 (by omega) (by decide) ?_
          refine e_nastN (pc := 196) d_md_spread_196 (f := ap) md_g48 (by omega) (by decide) ?_
          rw [md_u48]
          show q_Ev l G m_md_spread 4 96 0 0 197 [some (.ref (42)), some (.int (nI (s))), some (.int (nI (k2)))] [] (md_put h ((fa, (some r), ep, tm), ((L.1), (L.2.1), (L.2.2.1), (L.2.2.2)), ((S.1), (va_up (ap) (s) (((S.1)) (s))), (S.2.2.1), (S.2.2.2.1), (S.2.2.2.2)), ((C.1), (C.2.1), (C.2.2.1), (C.2.2.2.1), (C.2.2.2.2)), ((W2.1), (W2.2.1), (W2.2.2.1), (W2.2.2.2)), ((T2.1), (T2.2.1), (T2.2.2.1), (T2.2.2.2.1), (T2.2.2.2.2)))) N _
          refine e_iincN (pc := 197) d_md_spread_197 (a := s) (b := 1) rfl rfl (by decide) ?_
          refine e_goto (pc := 200) (tgt := 117) d_md_spread_200 (by decide) ?_
          simp only [s3F]
          rw [if_pos c2]
          have e3 : s31 L C S.1 s (ap, W, T) = (va_up ap s (S.1 s), W2, T2) := by unfold s31; rw [e2]
          rw [e3]
          refine ih (s + 1) _ W2 T2 _ ⟨⟨by omega, hW2⟩, ?_⟩
          have h3 := s3F_o (L := L) (C := C) (ln := S.1) (r := r) (D := S.2.2.2) (n := n) (Z := S.2.2) (g := 1) (s := s) (X := (ap, W, T)) ⟨hW, hLo⟩
          simp only [s3F] at h3
          rw [if_pos c2, e3] at h3
          exact h3.2
        · refine e_goto (pc := 137) (tgt := 197) d_md_spread_137 (by decide) ?_
          refine e_iincN (pc := 197) d_md_spread_197 (a := s) (b := 1) rfl rfl (by decide) ?_
          refine e_goto (pc := 200) (tgt := 117) d_md_spread_200 (by decide) ?_
          simp only [s3F]
          rw [if_neg (by rw [c2]; decide)]
          exact ih (s + 1) ap W T x2 ⟨⟨by omega, hW⟩, hLo⟩
set_option maxHeartbeats 4000000 in
set_option maxRecDepth 100000 in
theorem lp_md_spread2i {l : Launch} {G : q_G} (htr : l.stackTraces = false) {h : q_H} {N : Nat} {fa : Int32} {r ep : Nat} {tm : Int32} {S : mS} {C : mC} {W : mW} {T : mT} {Q : q_Q} {s : Nat} (hs : s < 3) (hr : r < 3) (hln : S.1 s ≤ 80) : ∀ (g k : Nat) (L : mL), k + g = S.1 s → (∀ L2 k2, L2 = cpF r s g k L → q_Ev l G m_md_spread 4 96 0 0 109 [some (.ref 42), some (.int (nI s)), some (.int (nI k2))] [] (md_put h ((fa, some r, ep, tm), L2, S, C, W, T)) N Q) → q_Ev l G m_md_spread 4 96 0 0 74 [some (.ref (42)), some (.int (nI (s))), some (.int (nI (k)))] [] (md_put h ((fa, (some r), ep, tm), ((L.1), (L.2.1), (L.2.2.1), (L.2.2.2)), ((S.1), (S.2.1), (S.2.2.1), (S.2.2.2.1), (S.2.2.2.2)), ((C.1), (C.2.1), (C.2.2.1), (C.2.2.2.1), (C.2.2.2.2)), ((W.1), (W.2.1), (W.2.2.1), (W.2.2.2)), ((T.1), (T.2.1), (T.2.2.1), (T.2.2.2.1), (T.2.2.2.2)))) N (Q) := by
  intro g
  induction g with
  | zero =>
    intro k L he
    intro kk
    refine e_iload_n (pc := 74) d_md_spread_74 rfl ?_
    refine e_aload_n (pc := 75) d_md_spread_75 rfl ?_
    refine e_get (pc := 76) d_md_spread_76 fl_md_22 md_g42 rfl ?_
    refine e_iload_n (pc := 79) d_md_spread_79 rfl ?_
    refine e_naldN (pc := 80) d_md_spread_80 (f := (S.1)) md_g47 (by omega) (by decide) ?_
    refine e_icmp_geN (pc := 81) (tgt := 109) d_md_spread_81 (by decide) (by omega) (by omega) (fun c => ?_) (fun c => ?_)
    · exact kk L k rfl
    · omega
  | succ g ih =>
    intro k L he
    intro kk
    refine e_iload_n (pc := 74) d_md_spread_74 rfl ?_
    refine e_aload_n (pc := 75) d_md_spread_75 rfl ?_
    refine e_get (pc := 76) d_md_spread_76 fl_md_22 md_g42 rfl ?_
    refine e_iload_n (pc := 79) d_md_spread_79 rfl ?_
    refine e_naldN (pc := 80) d_md_spread_80 (f := (S.1)) md_g47 (by omega) (by decide) ?_
    refine e_icmp_geN (pc := 81) (tgt := 109) d_md_spread_81 (by decide) (by omega) (by omega) (fun c => ?_) (fun c => ?_)
    · omega
    · refine e_aload_n (pc := 84) d_md_spread_84 rfl ?_
      refine e_bipush (pc := 85) d_md_spread_85 (v := (nI (80))) rfl ?_
      refine e_aload_n (pc := 87) d_md_spread_87 rfl ?_
      refine e_get (pc := 88) d_md_spread_88 fl_md_105 md_g42 rfl ?_
      refine e_imulN (pc := 91) d_md_spread_91  ?_
      refine e_iload_n (pc := 92) d_md_spread_92 rfl ?_
      refine e_iaddN (pc := 93) d_md_spread_93  ?_
      refine e_bipush (pc := 94) d_md_spread_94 (v := (nI (80))) rfl ?_
      refine e_iload_n (pc := 96) d_md_spread_96 rfl ?_
      refine e_imulN (pc := 97) d_md_spread_97  ?_
      refine e_iload_n (pc := 98) d_md_spread_98 rfl ?_
      refine e_iaddN (pc := 99) d_md_spread_99  ?_
      refine e_callV (As := [.int (nI (((80) * (r)) + (k))), .int (nI (((80) * (s)) + (k)))]) (st := []) (cc2 := 0) (ss2 := 0) (pc := 100) d_md_spread_100 rfl cv_md_115 md_g42 rfl (c_md_copyEntry htr (show 80 * r + k < 240 by omega) (show 80 * s + k < 240 by omega)) rfl (by decide) (by decide) (by omega) (by omega) (Nat.le_of_ble_eq_true rfl) (fun _ _ _ hq => nomatch hq.1) (fun r h2 N2 hq => ?_)
      obtain ⟨hr, e1, e2⟩ := hq
      cases hr
      rw [e1, e2]
      clear e1 e2
      show q_Ev l G m_md_spread 4 96 0 0 103 [some (.ref (42)), some (.int (nI (s))), some (.int (nI (k)))] [] _ N _
      show q_Ev l G m_md_spread 4 96 0 0 103 [some (.ref (42)), some (.int (nI (s))), some (.int (nI (k)))] [] (md_put h ((fa, (some r), ep, tm), (((cpE (80 * r + k) (80 * s + k) L).1), ((cpE (80 * r + k) (80 * s + k) L).2.1), ((cpE (80 * r + k) (80 * s + k) L).2.2.1), ((cpE (80 * r + k) (80 * s + k) L).2.2.2)), ((S.1), (S.2.1), (S.2.2.1), (S.2.2.2.1), (S.2.2.2.2)), ((C.1), (C.2.1), (C.2.2.1), (C.2.2.2.1), (C.2.2.2.2)), ((W.1), (W.2.1), (W.2.2.1), (W.2.2.2)), ((T.1), (T.2.1), (T.2.2.1), (T.2.2.2.1), (T.2.2.2.2)))) N _
      refine e_iincN (pc := 103) d_md_spread_103 (a := k) (b := 1) rfl rfl (by decide) ?_
      refine e_goto (pc := 106) (tgt := 74) d_md_spread_106 (by decide) ?_
      exact ih (k + 1) _ (by omega) kk
set_option maxHeartbeats 4000000 in
set_option maxRecDepth 100000 in
theorem lp_md_spread2 {l : Launch} {G : q_G} (htr : l.stackTraces = false) {h : q_H} {N : Nat} {fa : Int32} {r ep : Nat} {tm : Int32} {S : mS} {C : mC} {W : mW} {T : mT} {n : Nat} (hn : n ≤ 80) (hr : r < 3) (hC : mCo C) (hW : mWo W) : ∀ (g s : Nat) (L : mL) (ln : Nat → Nat) (x2 : Option Value), s + g = 3 ∧ mLo n L (ln, S.2) → q_Ev l G m_md_spread 4 96 0 0 33 [some (.ref (42)), some (.int (nI (s))), x2] [] (md_put h ((fa, (some r), ep, tm), ((L.1), (L.2.1), (L.2.2.1), (L.2.2.2)), (ln, (S.2.1), (S.2.2.1), (S.2.2.2.1), (S.2.2.2.2)), ((C.1), (C.2.1), (C.2.2.1), (C.2.2.2.1), (C.2.2.2.2)), ((W.1), (W.2.1), (W.2.2.1), (W.2.2.2)), ((T.1), (T.2.1), (T.2.2.1), (T.2.2.2.1), (T.2.2.2.2)))) N (q_To none (md_put h ((fa, some r, ep, tm), (s2F r S.2.2.2 g s (L, ln)).1, ((s2F r S.2.2.2 g s (L, ln)).2, (spX r S.2.2.2 C (s2F r S.2.2.2 g s (L, ln)) (S.2.1, W, T)).1, S.2.2), C, (spX r S.2.2.2 C (s2F r S.2.2.2 g s (L, ln)) (S.2.1, W, T)).2)) N) := by
  intro g
  induction g with
  | zero =>
    intro s L ln x2 he
    have hkn : s = 3 := by omega
    subst hkn
    refine e_iload_n (pc := 33) d_md_spread_33 rfl ?_
    refine e_iconst (pc := 34) d_md_spread_34 (v := (nI (3))) rfl ?_
    refine e_icmp_geN (pc := 35) (tgt := 115) d_md_spread_35 (by decide) (by omega) (by omega) (fun c => ?_) (fun c => ?_)
    · refine e_iconst (pc := 115) d_md_spread_115 (v := (nI (0))) rfl ?_
      refine e_istore_n (pc := 116) d_md_spread_116 (by decide) ?_
      cases hq : k_qr (some r) S.2.2.2 with
      | false =>
        refine e_iload_n (pc := 117) d_md_spread_117 rfl ?_
        refine e_iconst (pc := 118) d_md_spread_118 (v := (nI (3))) rfl ?_
        refine e_icmp_geN (pc := 119) (tgt := 203) d_md_spread_119 (by decide) (by decide) (by decide) (fun c => absurd c (by decide)) (fun _ => ?_)
        refine e_aload_n (pc := 122) d_md_spread_122 rfl ?_
        refine e_callV (As := []) (st := []) (cc2 := 0) (ss2 := 0) (pc := 123) d_md_spread_123 rfl cv_md_118 md_g42 rfl (c_md_quorum htr (fun k hk => by cases hk; exact hr)) rfl (by decide) (by decide) (by omega) (by omega) (Nat.le_of_ble_eq_true rfl) (fun _ _ _ hq => nomatch hq.1) (fun r h2 N2 hq => ?_)
        obtain ⟨hr, e1, e2⟩ := hq
        cases hr
        rw [e1, e2]
        clear e1 e2
        show q_Ev l G m_md_spread 4 96 0 0 126 [some (.ref (42)), some (.int (nI (0))), x2] [.int (bI (k_qr (some r) S.2.2.2))] (md_put h ((fa, (some r), ep, tm), ((L.1), (L.2.1), (L.2.2.1), (L.2.2.2)), (ln, (S.2.1), (S.2.2.1), (S.2.2.2.1), (S.2.2.2.2)), ((C.1), (C.2.1), (C.2.2.1), (C.2.2.2.1), (C.2.2.2.2)), ((W.1), (W.2.1), (W.2.2.1), (W.2.2.2)), ((T.1), (T.2.1), (T.2.2.1), (T.2.2.2.1), (T.2.2.2.2)))) N _
        refine e_ifB_eq (pc := 126) (tgt := 203) d_md_spread_126 (by decide) (fun c1 => ?_) (fun c1 => ?_)
        · exact e_vret (pc := 203) d_md_spread_203 rfl (⟨rfl, by unfold spX; rw [if_neg (by rw [hq]; decide)]; rfl, rfl⟩)
        · rw [hq] at c1; exact nomatch c1
      | true =>
        have := lp_md_spread3 (l := l) (G := G) htr (h := h) (N := N) (fa := fa) (ep := ep) (tm := tm) (L := L) (S := (ln, S.2)) (C := C) hn hr hC hq 3 0 S.2.1 W T x2 ⟨⟨by omega, hW⟩, he.2⟩
        unfold spX
        rw [if_pos hq]
        exact this
    · omega
  | succ g ih =>
    intro s L ln x2 he
    obtain ⟨he, hLo⟩ := he
    refine e_iload_n (pc := 33) d_md_spread_33 rfl ?_
    refine e_iconst (pc := 34) d_md_spread_34 (v := (nI (3))) rfl ?_
    refine e_icmp_geN (pc := 35) (tgt := 115) d_md_spread_35 (by decide) (by omega) (by omega) (fun c => ?_) (fun c => ?_)
    · omega
    · have hlr : ln r ≤ n := (hLo r hr).1
      refine e_aload_n (pc := 38) d_md_spread_38 rfl ?_
      refine e_iload_n (pc := 39) d_md_spread_39 rfl ?_
      refine e_callV (As := [.int (nI (s))]) (st := []) (cc2 := 0) (ss2 := 0) (pc := 40) d_md_spread_40 rfl cv_md_112 md_g42 rfl (c_md_linked htr (fun k hk => by cases hk; exact hr) c) rfl (by decide) (by decide) (by omega) (by omega) (Nat.le_of_ble_eq_true rfl) (fun _ _ _ hq => nomatch hq.1) (fun r h2 N2 hq => ?_)
      obtain ⟨hr, e1, e2⟩ := hq
      cases hr
      rw [e1, e2]
      clear e1 e2
      show q_Ev l G m_md_spread 4 96 0 0 43 [some (.ref (42)), some (.int (nI (s))), x2] [.int (bI (k_lk (some r) S.2.2.2 s))] (md_put h ((fa, (some r), ep, tm), ((L.1), (L.2.1), (L.2.2.1), (L.2.2.2)), (ln, (S.2.1), (S.2.2.1), (S.2.2.2.1), (S.2.2.2.2)), ((C.1), (C.2.1), (C.2.2.1), (C.2.2.2.1), (C.2.2.2.2)), ((W.1), (W.2.1), (W.2.2.1), (W.2.2.2)), ((T.1), (T.2.1), (T.2.2.1), (T.2.2.2.1), (T.2.2.2.2)))) N _
      refine e_ifB_eq (pc := 43) (tgt := 109) d_md_spread_43 (by decide) (fun c1 => ?_) (fun c1 => ?_)
      · refine e_iincN (pc := 109) d_md_spread_109 (a := s) (b := 1) rfl rfl (by decide) ?_
        refine e_goto (pc := 112) (tgt := 33) d_md_spread_112 (by decide) ?_
        simp only [s2F]
        rw [if_neg (show ¬ s2c r S.2.2.2 s = true by simp [s2c, c1])]
        exact ih (s + 1) L ln _ ⟨by omega, hLo⟩
      · refine e_iload_n (pc := 46) d_md_spread_46 rfl ?_
        refine e_aload_n (pc := 47) d_md_spread_47 rfl ?_
        refine e_get (pc := 48) d_md_spread_48 fl_md_105 md_g42 rfl ?_
        refine e_icmp_neN (pc := 51) (tgt := 57) d_md_spread_51 (by decide) (by omega) (by omega) (fun c2 => ?_) (fun c2 => ?_)
        · refine e_aload_n (pc := 57) d_md_spread_57 rfl ?_
          refine e_get (pc := 58) d_md_spread_58 fl_md_22 md_g42 rfl ?_
          refine e_iload_n (pc := 61) d_md_spread_61 rfl ?_
          refine e_aload_n (pc := 62) d_md_spread_62 rfl ?_
          refine e_get (pc := 63) d_md_spread_63 fl_md_22 md_g42 rfl ?_
          refine e_aload_n (pc := 66) d_md_spread_66 rfl ?_
          refine e_get (pc := 67) d_md_spread_67 fl_md_105 md_g42 rfl ?_
          refine e_naldN (pc := 70) d_md_spread_70 (f := ln) md_g47 (by omega) (by decide) ?_
          refine e_nastN (pc := 71) d_md_spread_71 (f := ln) md_g47 (by omega) (by decide) ?_
          rw [md_u47]
          show q_Ev l G m_md_spread 4 96 0 0 72 [some (.ref (42)), some (.int (nI (s))), x2] [] (md_put h ((fa, (some r), ep, tm), ((L.1), (L.2.1), (L.2.2.1), (L.2.2.2)), ((va_up (ln) (s) ((ln) (r))), (S.2.1), (S.2.2.1), (S.2.2.2.1), (S.2.2.2.2)), ((C.1), (C.2.1), (C.2.2.1), (C.2.2.2.1), (C.2.2.2.2)), ((W.1), (W.2.1), (W.2.2.1), (W.2.2.2)), ((T.1), (T.2.1), (T.2.2.1), (T.2.2.2.1), (T.2.2.2.2)))) N _
          refine e_iconst (pc := 72) d_md_spread_72 (v := (nI (0))) rfl ?_
          refine e_istore_n (pc := 73) d_md_spread_73 (by decide) ?_
          have hc : s2c r S.2.2.2 s = true := by simp [s2c, c1, c2]
          have els : va_up ln s (ln r) s = ln r := by simp [va_up]
          have elr : va_up ln s (ln r) r = ln r := by simp [va_up]
          refine lp_md_spread2i (S := (va_up ln s (ln r), S.2)) htr c hr (by rw [show (va_up ln s (ln r), S.2).1 s = ln r from els]; omega) (ln r) 0 L (by rw [show (va_up ln s (ln r), S.2).1 s = ln r from els]; omega) (fun L2 k2 e2 => ?_)
          show q_Ev l G m_md_spread 4 96 0 0 109 [some (.ref (42)), some (.int (nI (s))), some (.int (nI (k2)))] [] (md_put h ((fa, (some r), ep, tm), ((L2.1), (L2.2.1), (L2.2.2.1), (L2.2.2.2)), ((va_up ln s (ln r)), (S.2.1), (S.2.2.1), (S.2.2.2.1), (S.2.2.2.2)), ((C.1), (C.2.1), (C.2.2.1), (C.2.2.2.1), (C.2.2.2.2)), ((W.1), (W.2.1), (W.2.2.1), (W.2.2.2)), ((T.1), (T.2.1), (T.2.2.1), (T.2.2.2.1), (T.2.2.2.2)))) N _
          refine e_iincN (pc := 109) d_md_spread_109 (a := s) (b := 1) rfl rfl (by decide) ?_
          refine e_goto (pc := 112) (tgt := 33) d_md_spread_112 (by decide) ?_
          have h3 := s2_Lo (ap := S.2.1) (Z := S.2.2) (D := S.2.2.2) hn hr c (X := (L, ln)) hLo
          rw [if_pos hc] at h3
          simp only [s2F]
          rw [if_pos hc]
          rw [← e2] at h3 ⊢
          exact ih (s + 1) L2 _ _ ⟨by omega, h3⟩
        · refine e_goto (pc := 54) (tgt := 109) d_md_spread_54 (by decide) ?_
          refine e_iincN (pc := 109) d_md_spread_109 (a := s) (b := 1) rfl rfl (by decide) ?_
          refine e_goto (pc := 112) (tgt := 33) d_md_spread_112 (by decide) ?_
          simp only [s2F]
          rw [if_neg (show ¬ s2c r S.2.2.2 s = true by simp [s2c, c2])]
          exact ih (s + 1) L ln _ ⟨by omega, hLo⟩
set_option maxHeartbeats 4000000 in
set_option maxRecDepth 100000 in
theorem lp_md_spread1 {l : Launch} {G : q_G} (htr : l.stackTraces = false) {h : q_H} {N : Nat} {fa : Int32} {r ep : Nat} {tm : Int32} {L : mL} {S : mS} {C : mC} {W : mW} {T : mT} {n : Nat} (hn : n ≤ 80) (hr : r < 3) (hC : mCo C) (hW : mWo W) (hLo : mLo n L S) : ∀ (g s : Nat) (ag : Nat → Nat), s + g = 3 → q_Ev l G m_md_spread 4 96 0 0 2 [some (.ref (42)), some (.int (nI (s))), none] [] (md_put h ((fa, (some r), ep, tm), ((L.1), (L.2.1), (L.2.2.1), (L.2.2.2)), ((S.1), (S.2.1), ag, (S.2.2.2.1), (S.2.2.2.2)), ((C.1), (C.2.1), (C.2.2.1), (C.2.2.2.1), (C.2.2.2.2)), ((W.1), (W.2.1), (W.2.2.1), (W.2.2.2)), ((T.1), (T.2.1), (T.2.2.1), (T.2.2.2.1), (T.2.2.2.2)))) N (q_To none (md_put h ((fa, some r, ep, tm), (s2F r S.2.2.2 3 0 (L, S.1)).1, ((s2F r S.2.2.2 3 0 (L, S.1)).2, (spX r S.2.2.2 C (s2F r S.2.2.2 3 0 (L, S.1)) (S.2.1, W, T)).1, agF (some r) S.2.2.2 ep g s ag, S.2.2.2), C, (spX r S.2.2.2 C (s2F r S.2.2.2 3 0 (L, S.1)) (S.2.1, W, T)).2)) N) := by
  intro g
  induction g with
  | zero =>
    intro s ag he
    have hkn : s = 3 := by omega
    subst hkn
    refine e_iload_n (pc := 2) d_md_spread_2 rfl ?_
    refine e_iconst (pc := 3) d_md_spread_3 (v := (nI (3))) rfl ?_
    refine e_icmp_geN (pc := 4) (tgt := 31) d_md_spread_4 (by decide) (by omega) (by omega) (fun c => ?_) (fun c => ?_)
    · refine e_iconst (pc := 31) d_md_spread_31 (v := (nI (0))) rfl ?_
      refine e_istore_n (pc := 32) d_md_spread_32 (by decide) ?_
      exact lp_md_spread2 (S := (S.1, S.2.1, ag, S.2.2.2)) htr hn hr hC hW 3 0 L S.1 none ⟨by omega, hLo⟩
    · omega
  | succ g ih =>
    intro s ag he
    refine e_iload_n (pc := 2) d_md_spread_2 rfl ?_
    refine e_iconst (pc := 3) d_md_spread_3 (v := (nI (3))) rfl ?_
    refine e_icmp_geN (pc := 4) (tgt := 31) d_md_spread_4 (by decide) (by omega) (by omega) (fun c => ?_) (fun c => ?_)
    · omega
    · refine e_aload_n (pc := 7) d_md_spread_7 rfl ?_
      refine e_iload_n (pc := 8) d_md_spread_8 rfl ?_
      refine e_callV (As := [.int (nI (s))]) (st := []) (cc2 := 0) (ss2 := 0) (pc := 9) d_md_spread_9 rfl cv_md_112 md_g42 rfl (c_md_linked htr (fun k hk => by cases hk; exact hr) c) rfl (by decide) (by decide) (by omega) (by omega) (Nat.le_of_ble_eq_true rfl) (fun _ _ _ hq => nomatch hq.1) (fun r h2 N2 hq => ?_)
      obtain ⟨hr, e1, e2⟩ := hq
      cases hr
      rw [e1, e2]
      clear e1 e2
      show q_Ev l G m_md_spread 4 96 0 0 12 [some (.ref (42)), some (.int (nI (s))), none] [.int (bI (k_lk (some r) S.2.2.2 s))] (md_put h ((fa, (some r), ep, tm), ((L.1), (L.2.1), (L.2.2.1), (L.2.2.2)), ((S.1), (S.2.1), ag, (S.2.2.2.1), (S.2.2.2.2)), ((C.1), (C.2.1), (C.2.2.1), (C.2.2.2.1), (C.2.2.2.2)), ((W.1), (W.2.1), (W.2.2.1), (W.2.2.2)), ((T.1), (T.2.1), (T.2.2.1), (T.2.2.2.1), (T.2.2.2.2)))) N _
      refine e_ifB_eq (pc := 12) (tgt := 25) d_md_spread_12 (by decide) (fun c1 => ?_) (fun c1 => ?_)
      · refine e_iincN (pc := 25) d_md_spread_25 (a := s) (b := 1) rfl rfl (by decide) ?_
        refine e_goto (pc := 28) (tgt := 2) d_md_spread_28 (by decide) ?_
        simp only [agF]
        rw [if_neg (by rw [c1]; decide)]
        exact ih (s + 1) ag (by omega)
      · refine e_aload_n (pc := 15) d_md_spread_15 rfl ?_
        refine e_get (pc := 16) d_md_spread_16 fl_md_28 md_g42 rfl ?_
        refine e_iload_n (pc := 19) d_md_spread_19 rfl ?_
        refine e_aload_n (pc := 20) d_md_spread_20 rfl ?_
        refine e_get (pc := 21) d_md_spread_21 fl_md_38 md_g42 rfl ?_
        refine e_nastN (pc := 24) d_md_spread_24 (f := ag) md_g49 (by omega) (by decide) ?_
        rw [md_u49]
        show q_Ev l G m_md_spread 4 96 0 0 25 [some (.ref (42)), some (.int (nI (s))), none] [] (md_put h ((fa, (some r), ep, tm), ((L.1), (L.2.1), (L.2.2.1), (L.2.2.2)), ((S.1), (S.2.1), (va_up (ag) (s) (ep)), (S.2.2.2.1), (S.2.2.2.2)), ((C.1), (C.2.1), (C.2.2.1), (C.2.2.2.1), (C.2.2.2.2)), ((W.1), (W.2.1), (W.2.2.1), (W.2.2.2)), ((T.1), (T.2.1), (T.2.2.1), (T.2.2.2.1), (T.2.2.2.2)))) N _
        refine e_iincN (pc := 25) d_md_spread_25 (a := s) (b := 1) rfl rfl (by decide) ?_
        refine e_goto (pc := 28) (tgt := 2) d_md_spread_28 (by decide) ?_
        simp only [agF]
        rw [if_pos c1]
        exact ih (s + 1) _ (by omega)
set_option maxHeartbeats 4000000 in
set_option maxRecDepth 100000 in
theorem c_md_spread {l : Launch} {G : q_G} (htr : l.stackTraces = false) {h : q_H} {N : Nat} {fa : Int32} {r ep : Nat} {tm : Int32} {L : mL} {S : mS} {C : mC} {W : mW} {T : mT} {n : Nat} (hn : n ≤ 80) (hr : r < 3) (hC : mCo C) (hW : mWo W) (hLo : mLo n L S) : q_Met l G m_md_spread 4 96 0 0 [.ref (42)] (md_put h ((fa, some r, ep, tm), L, S, C, W, T)) N (q_To none (md_put h (spM ((fa, some r, ep, tm), L, S, C, W, T))) N) := by
  refine q_Met.mk htr (by decide +kernel) rfl (List.forall_mem_cons.mpr ⟨rfl, fun _ h => nomatch h⟩) (Nat.le_of_ble_eq_true rfl) ?_
  refine e_iconst (pc := 0) d_md_spread_0 (v := (nI (0))) rfl ?_
  refine e_istore_n (pc := 1) d_md_spread_1 (by decide) ?_
  exact lp_md_spread1 htr hn hr hC hW hLo 3 0 S.2.2.1 (by omega)

set_option maxHeartbeats 4000000 in
set_option maxRecDepth 100000 in
theorem lp_md_done {l : Launch} {G : q_G} (htr : l.stackTraces = false) {h : q_H} {N : Nat} {A : mA} {L : mL} {S : mS} {C : mC} {T : mT} {srv : Option Nat} (hsv : ∀ i, srv = some i → i < 3) (hC : mCo C) {e : Nat} (hel : e < 240) : ∀ (g q : Nat) (th : Nat → Bool) (W : mW), (q + g = 259 ∧ 1 ≤ q) ∧ mWo W → q_Ev l G m_md_done 2 49 0 0 172 [some (.ref (42)), some (.int (nI (e))), some (.int (ldI srv)), some (.int (nI ((L.2.1) e))), some (.int (nI (q)))] [] (md_put h (((A.1), (A.2.1), (A.2.2.1), (A.2.2.2)), ((L.1), (L.2.1), (L.2.2.1), (L.2.2.2)), ((S.1), (S.2.1), (S.2.2.1), (S.2.2.2.1), (S.2.2.2.2)), ((C.1), (C.2.1), (C.2.2.1), (C.2.2.2.1), (C.2.2.2.2)), ((W.1), (W.2.1), (W.2.2.1), (W.2.2.2)), (th, (T.2.1), (T.2.2.1), (T.2.2.2.1), (T.2.2.2.2)))) N (q_To (none) (md_put h (A, L, S, C, clW srv C T.2.2.2.2 (L.2.2.2 e) g q th W, (clT T.2.2.2.2 (L.2.2.2 e) g q th, T.2))) N) := by
  intro g
  induction g with
  | zero =>
    intro q th W he
    have hkn : q = 259 := by omega
    subst hkn
    refine e_iload (pc := 172) d_md_done_172 rfl ?_
    refine e_sipush (pc := 174) d_md_done_174 (v := (nI (259))) rfl ?_
    refine e_icmp_geN (pc := 177) (tgt := 228) d_md_done_177 (by decide) (by omega) (by omega) (fun c => ?_) (fun c => ?_)
    · exact e_vret (pc := 228) d_md_done_228 rfl (⟨rfl, rfl, rfl⟩)
    · omega
  | succ g ih =>
    intro q th W he
    obtain ⟨⟨he, h1q⟩, hW⟩ := he
    refine e_iload (pc := 172) d_md_done_172 rfl ?_
    refine e_sipush (pc := 174) d_md_done_174 (v := (nI (259))) rfl ?_
    refine e_icmp_geN (pc := 177) (tgt := 228) d_md_done_177 (by decide) (by omega) (by omega) (fun c => ?_) (fun c => ?_)
    · omega
    · refine e_aload_n (pc := 180) d_md_done_180 rfl ?_
      refine e_get (pc := 181) d_md_done_181 fl_md_69 md_g42 rfl ?_
      refine e_iload (pc := 184) d_md_done_184 rfl ?_
      refine e_zaldN (pc := 186) d_md_done_186 (f := th) md_g61 (by omega) (by decide) ?_
      refine e_ifB_eq (pc := 187) (tgt := 222) d_md_done_187 (by decide) (fun c1 => ?_) (fun c1 => ?_)
      · refine e_iincN (pc := 222) d_md_done_222 (a := q) (b := 1) rfl rfl (by decide) ?_
        refine e_goto (pc := 225) (tgt := 172) d_md_done_225 (by decide) ?_
        have e1 : ¬ (th q = true ∧ T.2.2.2.2 q = L.2.2.2 e) := fun z => by rw [z.1] at c1; exact nomatch c1
        simp only [clW, clT]
        rw [if_neg e1, if_neg e1]
        exact ih (q + 1) th W ⟨⟨by omega, by omega⟩, hW⟩
      · refine e_aload_n (pc := 190) d_md_done_190 rfl ?_
        refine e_get (pc := 191) d_md_done_191 fl_md_81 md_g42 rfl ?_
        refine e_iload (pc := 194) d_md_done_194 rfl ?_
        refine e_ialdN (pc := 196) d_md_done_196 (f := (T.2.2.2.2)) md_g65 (by omega) (by decide) ?_
        refine e_aload_n (pc := 197) d_md_done_197 rfl ?_
        refine e_get (pc := 198) d_md_done_198 fl_md_19 md_g42 rfl ?_
        refine e_iload_n (pc := 201) d_md_done_201 rfl ?_
        refine e_ialdN (pc := 202) d_md_done_202 (f := (L.2.2.2)) md_g46 (by omega) (by decide) ?_
        refine e_icmp_ne (pc := 203) (tgt := 222) d_md_done_203 (by decide) (fun c2 => ?_) (fun c2 => ?_)
        · refine e_iincN (pc := 222) d_md_done_222 (a := q) (b := 1) rfl rfl (by decide) ?_
          refine e_goto (pc := 225) (tgt := 172) d_md_done_225 (by decide) ?_
          have e1 : ¬ (th q = true ∧ T.2.2.2.2 q = L.2.2.2 e) := fun z => c2 z.2
          simp only [clW, clT]
          rw [if_neg e1, if_neg e1]
          exact ih (q + 1) th W ⟨⟨by omega, by omega⟩, hW⟩
        · refine e_aload_n (pc := 206) d_md_done_206 rfl ?_
          refine e_get (pc := 207) d_md_done_207 fl_md_69 md_g42 rfl ?_
          refine e_iload (pc := 210) d_md_done_210 rfl ?_
          refine e_iconst (pc := 212) d_md_done_212 (v := (bI (false))) rfl ?_
          refine e_zastN (pc := 213) d_md_done_213 (f := th) md_g61 (by omega) (by decide) ?_
          rw [md_u61]
          show q_Ev l G m_md_done 2 49 0 0 214 [some (.ref (42)), some (.int (nI (e))), some (.int (ldI srv)), some (.int (nI ((L.2.1) e))), some (.int (nI (q)))] [] (md_put h (((A.1), (A.2.1), (A.2.2.1), (A.2.2.2)), ((L.1), (L.2.1), (L.2.2.1), (L.2.2.2)), ((S.1), (S.2.1), (S.2.2.1), (S.2.2.2.1), (S.2.2.2.2)), ((C.1), (C.2.1), (C.2.2.1), (C.2.2.2.1), (C.2.2.2.2)), ((W.1), (W.2.1), (W.2.2.1), (W.2.2.2)), ((va_up (th) (q) (false)), (T.2.1), (T.2.2.1), (T.2.2.2.1), (T.2.2.2.2)))) N _
          refine e_aload_n (pc := 214) d_md_done_214 rfl ?_
          refine e_iload_n (pc := 215) d_md_done_215 rfl ?_
          refine e_iload (pc := 216) d_md_done_216 rfl ?_
          refine e_iconst (pc := 218) d_md_done_218 (v := (nI (3))) rfl ?_
          refine e_callV (As := [.int (ldI srv), .int (nI (q)), .int (nI (3))]) (st := []) (cc2 := 0) (ss2 := 0) (pc := 219) d_md_done_219 rfl cv_md_91 md_g42 rfl (c_md_tell3 htr hsv hC hW c) rfl (by decide) (by decide) (by omega) (by omega) (Nat.le_of_ble_eq_true rfl) (fun _ _ _ hq => nomatch hq.1) (fun r h2 N2 hq => ?_)
          obtain ⟨hr, e1, e2⟩ := hq
          cases hr
          rw [e1, e2]
          clear e1 e2
          show q_Ev l G m_md_done 2 49 0 0 222 [some (.ref (42)), some (.int (nI (e))), some (.int (ldI srv)), some (.int (nI ((L.2.1) e))), some (.int (nI (q)))] [] _ N _
          show q_Ev l G m_md_done 2 49 0 0 222 [some (.ref (42)), some (.int (nI (e))), some (.int (ldI srv)), some (.int (nI ((L.2.1) e))), some (.int (nI (q)))] [] (md_put h (((A.1), (A.2.1), (A.2.2.1), (A.2.2.2)), ((L.1), (L.2.1), (L.2.2.1), (L.2.2.2)), ((S.1), (S.2.1), (S.2.2.1), (S.2.2.2.1), (S.2.2.2.2)), ((C.1), (C.2.1), (C.2.2.1), (C.2.2.2.1), (C.2.2.2.2)), (((tlF srv C q 3 4 0 W).1), ((tlF srv C q 3 4 0 W).2.1), ((tlF srv C q 3 4 0 W).2.2.1), ((tlF srv C q 3 4 0 W).2.2.2)), ((va_up th q false), (T.2.1), (T.2.2.1), (T.2.2.2.1), (T.2.2.2.2)))) N _
          refine e_iincN (pc := 222) d_md_done_222 (a := q) (b := 1) rfl rfl (by decide) ?_
          refine e_goto (pc := 225) (tgt := 172) d_md_done_225 (by decide) ?_
          have e1 : th q = true ∧ T.2.2.2.2 q = L.2.2.2 e := ⟨c1, c2⟩
          simp only [clW, clT]
          rw [if_pos e1, if_pos e1]
          exact ih (q + 1) _ _ ⟨⟨by omega, by omega⟩, tlF_o hW⟩
set_option maxHeartbeats 4000000 in
set_option maxRecDepth 100000 in
theorem c_md_done {l : Launch} {G : q_G} (htr : l.stackTraces = false) {h : q_H} {N : Nat} {A : mA} {L : mL} {S : mS} {C : mC} {W : mW} {T : mT} {srv : Option Nat} (hsv : ∀ i, srv = some i → i < 3) (hC : mCo C) (hW : mWo W) {e : Nat} (hel : e < 240) (hE : mEo L e) : q_Met l G m_md_done 2 49 0 0 [.ref (42), .int (nI (e)), .int (ldI srv)] (md_put h (A, L, S, C, W, T)) N (q_To (none) (md_put h (A, L, S, C, dnW srv C (L.1 e) (L.2.1 e) (L.2.2.2 e) T W, dnL L e T)) N) := by
  refine q_Met.mk htr (by decide +kernel) rfl (List.forall_mem_cons.mpr ⟨rfl, List.forall_mem_cons.mpr ⟨rfl, List.forall_mem_cons.mpr ⟨rfl, fun _ h => nomatch h⟩⟩⟩) (Nat.le_of_ble_eq_true rfl) ?_
  obtain ⟨hE1, hE2, hE3⟩ := hE
  unfold dnL
  refine e_aload_n (pc := 0) d_md_done_0 rfl ?_
  refine e_get (pc := 1) d_md_done_1 fl_md_13 md_g42 rfl ?_
  refine e_iload_n (pc := 4) d_md_done_4 rfl ?_
  refine e_naldN (pc := 5) d_md_done_5 (f := (L.2.1)) md_g44 (by omega) (by decide) ?_
  refine e_istore_n (pc := 6) d_md_done_6 (by decide) ?_
  refine e_aload_n (pc := 7) d_md_done_7 rfl ?_
  refine e_get (pc := 8) d_md_done_8 fl_md_7 md_g42 rfl ?_
  refine e_iload_n (pc := 11) d_md_done_11 rfl ?_
  refine e_naldN (pc := 12) d_md_done_12 (f := (L.1)) md_g43 (by omega) (by decide) ?_
  refine e_iconst (pc := 13) d_md_done_13 (v := (nI (2))) rfl ?_
  refine e_icmp_geN (pc := 14) (tgt := 100) d_md_done_14 (by decide) (by omega) (by omega) (fun c => ?_) (fun c => ?_)
  · refine e_aload_n (pc := 100) d_md_done_100 rfl ?_
    refine e_get (pc := 101) d_md_done_101 fl_md_7 md_g42 rfl ?_
    refine e_iload_n (pc := 104) d_md_done_104 rfl ?_
    refine e_naldN (pc := 105) d_md_done_105 (f := (L.1)) md_g43 (by omega) (by decide) ?_
    refine e_iconst (pc := 106) d_md_done_106 (v := (nI (2))) rfl ?_
    refine e_icmp_neN (pc := 107) (tgt := 142) d_md_done_107 (by decide) (by omega) (by omega) (fun c2 => ?_) (fun c2 => ?_)
    · refine e_aload_n (pc := 142) d_md_done_142 rfl ?_
      refine e_get (pc := 143) d_md_done_143 fl_md_7 md_g42 rfl ?_
      refine e_iload_n (pc := 146) d_md_done_146 rfl ?_
      refine e_naldN (pc := 147) d_md_done_147 (f := (L.1)) md_g43 (by omega) (by decide) ?_
      refine e_iconst (pc := 148) d_md_done_148 (v := (nI (3))) rfl ?_
      refine e_icmp_neN (pc := 149) (tgt := 169) d_md_done_149 (by decide) (by omega) (by omega) (fun c3 => ?_) (fun c3 => ?_)
      · refine e_iconst (pc := 169) d_md_done_169 (v := (nI (1))) rfl ?_
        refine e_istore (pc := 170) d_md_done_170 (by decide) ?_
        have ek : ¬ L.1 e < 2 := by omega
        have := lp_md_done (l := l) (G := G) htr (h := h) (N := N) (A := A) (L := L) (S := S) (C := C) (T := T) hsv hC hel 258 1 T.1 W ⟨⟨by omega, by omega⟩, hW⟩
        unfold dnW dnT
        rw [if_neg ek, if_neg ek, if_neg c2, if_neg c2, if_neg c3, if_neg c3]
        exact this
      · refine e_aload_n (pc := 152) d_md_done_152 rfl ?_
        refine e_get (pc := 153) d_md_done_153 fl_md_69 md_g42 rfl ?_
        refine e_iload_n (pc := 156) d_md_done_156 rfl ?_
        refine e_iconst (pc := 157) d_md_done_157 (v := (bI (false))) rfl ?_
        refine e_zastN (pc := 158) d_md_done_158 (f := (T.1)) md_g61 (by omega) (by decide) ?_
        rw [md_u61]
        show q_Ev l G m_md_done 2 49 0 0 159 [some (.ref (42)), some (.int (nI (e))), some (.int (ldI srv)), some (.int (nI (((L.2.1)) (e)))), none] [] (md_put h (((A.1), (A.2.1), (A.2.2.1), (A.2.2.2)), ((L.1), (L.2.1), (L.2.2.1), (L.2.2.2)), ((S.1), (S.2.1), (S.2.2.1), (S.2.2.2.1), (S.2.2.2.2)), ((C.1), (C.2.1), (C.2.2.1), (C.2.2.2.1), (C.2.2.2.2)), ((W.1), (W.2.1), (W.2.2.1), (W.2.2.2)), ((va_up ((T.1)) (((L.2.1)) (e)) (false)), (T.2.1), (T.2.2.1), (T.2.2.2.1), (T.2.2.2.2)))) N _
        refine e_aload_n (pc := 159) d_md_done_159 rfl ?_
        refine e_iload_n (pc := 160) d_md_done_160 rfl ?_
        refine e_iload_n (pc := 161) d_md_done_161 rfl ?_
        refine e_iconst (pc := 162) d_md_done_162 (v := (nI (3))) rfl ?_
        refine e_callV (As := [.int (ldI srv), .int (nI (((L.2.1)) (e))), .int (nI (3))]) (st := []) (cc2 := 0) (ss2 := 0) (pc := 163) d_md_done_163 rfl cv_md_91 md_g42 rfl (c_md_tell3 htr hsv hC hW hE2) rfl (by decide) (by decide) (by omega) (by omega) (Nat.le_of_ble_eq_true rfl) (fun _ _ _ hq => nomatch hq.1) (fun r h2 N2 hq => ?_)
        obtain ⟨hr, e1, e2⟩ := hq
        cases hr
        rw [e1, e2]
        clear e1 e2
        show q_Ev l G m_md_done 2 49 0 0 166 [some (.ref (42)), some (.int (nI (e))), some (.int (ldI srv)), some (.int (nI (((L.2.1)) (e)))), none] [] _ N _
        refine e_goto (pc := 166) (tgt := 228) d_md_done_166 (by decide) ?_
        exact e_vret (pc := 228) d_md_done_228 rfl (⟨rfl, by unfold dnW dnT; rw [if_neg (show ¬ L.1 e < 2 by omega), if_neg (show ¬ L.1 e < 2 by omega), if_neg c2, if_neg c2, if_pos c3, if_pos c3], rfl⟩)
    · refine e_aload_n (pc := 110) d_md_done_110 rfl ?_
      refine e_get (pc := 111) d_md_done_111 fl_md_72 md_g42 rfl ?_
      refine e_iload_n (pc := 114) d_md_done_114 rfl ?_
      refine e_aload_n (pc := 115) d_md_done_115 rfl ?_
      refine e_get (pc := 116) d_md_done_116 fl_md_16 md_g42 rfl ?_
      refine e_iload_n (pc := 119) d_md_done_119 rfl ?_
      refine e_ialdN (pc := 120) d_md_done_120 (f := (L.2.2.1)) md_g45 (by omega) (by decide) ?_
      refine e_iastN (pc := 121) d_md_done_121 md_g62 (by omega) (by decide) ?_
      rw [md_u62]
      show q_Ev l G m_md_done 2 49 0 0 122 [some (.ref (42)), some (.int (nI (e))), some (.int (ldI srv)), some (.int (nI (((L.2.1)) (e)))), none] [] (md_put h (((A.1), (A.2.1), (A.2.2.1), (A.2.2.2)), ((L.1), (L.2.1), (L.2.2.1), (L.2.2.2)), ((S.1), (S.2.1), (S.2.2.1), (S.2.2.2.1), (S.2.2.2.2)), ((C.1), (C.2.1), (C.2.2.1), (C.2.2.2.1), (C.2.2.2.2)), ((W.1), (W.2.1), (W.2.2.1), (W.2.2.2)), ((T.1), (upd ((T.2.1)) (((L.2.1)) (e)) ((((L.2.2.1)) (e)))), (T.2.2.1), (T.2.2.2.1), (T.2.2.2.2)))) N _
      refine e_aload_n (pc := 122) d_md_done_122 rfl ?_
      refine e_get (pc := 123) d_md_done_123 fl_md_75 md_g42 rfl ?_
      refine e_iload_n (pc := 126) d_md_done_126 rfl ?_
      refine e_dup2 (pc := 127) d_md_done_127 rfl rfl ?_
      refine e_ialdN (pc := 128) d_md_done_128 (f := (T.2.2.1)) md_g63 (by omega) (by decide) ?_
      refine e_iconst (pc := 129) d_md_done_129 (v := (nI (1))) rfl ?_
      refine e_iadd (pc := 130) d_md_done_130  ?_
      refine e_iastN (pc := 131) d_md_done_131 md_g63 (by omega) (by decide) ?_
      rw [md_u63]
      show q_Ev l G m_md_done 2 49 0 0 132 [some (.ref (42)), some (.int (nI (e))), some (.int (ldI srv)), some (.int (nI (((L.2.1)) (e)))), none] [] (md_put h (((A.1), (A.2.1), (A.2.2.1), (A.2.2.2)), ((L.1), (L.2.1), (L.2.2.1), (L.2.2.2)), ((S.1), (S.2.1), (S.2.2.1), (S.2.2.2.1), (S.2.2.2.2)), ((C.1), (C.2.1), (C.2.2.1), (C.2.2.2.1), (C.2.2.2.2)), ((W.1), (W.2.1), (W.2.2.1), (W.2.2.2)), ((T.1), (upd ((T.2.1)) (((L.2.1)) (e)) ((((L.2.2.1)) (e)))), (upd ((T.2.2.1)) (((L.2.1)) (e)) (((((T.2.2.1)) (((L.2.1)) (e))) + (nI (1))))), (T.2.2.2.1), (T.2.2.2.2)))) N _
      refine e_aload_n (pc := 132) d_md_done_132 rfl ?_
      refine e_iload_n (pc := 133) d_md_done_133 rfl ?_
      refine e_iload_n (pc := 134) d_md_done_134 rfl ?_
      refine e_iconst (pc := 135) d_md_done_135 (v := (nI (2))) rfl ?_
      refine e_callV (As := [.int (ldI srv), .int (nI (((L.2.1)) (e))), .int (nI (2))]) (st := []) (cc2 := 0) (ss2 := 0) (pc := 136) d_md_done_136 rfl cv_md_91 md_g42 rfl (c_md_tell2 htr hsv hC hW hE2) rfl (by decide) (by decide) (by omega) (by omega) (Nat.le_of_ble_eq_true rfl) (fun _ _ _ hq => nomatch hq.1) (fun r h2 N2 hq => ?_)
      obtain ⟨hr, e1, e2⟩ := hq
      cases hr
      rw [e1, e2]
      clear e1 e2
      show q_Ev l G m_md_done 2 49 0 0 139 [some (.ref (42)), some (.int (nI (e))), some (.int (ldI srv)), some (.int (nI (((L.2.1)) (e)))), none] [] _ N _
      refine e_goto (pc := 139) (tgt := 228) d_md_done_139 (by decide) ?_
      exact e_vret (pc := 228) d_md_done_228 rfl (⟨rfl, by unfold dnW dnT; rw [if_neg (show ¬ L.1 e < 2 by omega), if_neg (show ¬ L.1 e < 2 by omega), if_pos c2, if_pos c2], rfl⟩)
  · refine e_aload_n (pc := 17) d_md_done_17 rfl ?_
    refine e_get (pc := 18) d_md_done_18 fl_md_69 md_g42 rfl ?_
    refine e_iload_n (pc := 21) d_md_done_21 rfl ?_
    refine e_iconst (pc := 22) d_md_done_22 (v := (bI (true))) rfl ?_
    refine e_zastN (pc := 23) d_md_done_23 (f := (T.1)) md_g61 (by omega) (by decide) ?_
    rw [md_u61]
    show q_Ev l G m_md_done 2 49 0 0 24 [some (.ref (42)), some (.int (nI (e))), some (.int (ldI srv)), some (.int (nI (((L.2.1)) (e)))), none] [] (md_put h (((A.1), (A.2.1), (A.2.2.1), (A.2.2.2)), ((L.1), (L.2.1), (L.2.2.1), (L.2.2.2)), ((S.1), (S.2.1), (S.2.2.1), (S.2.2.2.1), (S.2.2.2.2)), ((C.1), (C.2.1), (C.2.2.1), (C.2.2.2.1), (C.2.2.2.2)), ((W.1), (W.2.1), (W.2.2.1), (W.2.2.2)), ((va_up ((T.1)) (((L.2.1)) (e)) (true)), (T.2.1), (T.2.2.1), (T.2.2.2.1), (T.2.2.2.2)))) N _
    refine e_aload_n (pc := 24) d_md_done_24 rfl ?_
    refine e_get (pc := 25) d_md_done_25 fl_md_72 md_g42 rfl ?_
    refine e_iload_n (pc := 28) d_md_done_28 rfl ?_
    refine e_aload_n (pc := 29) d_md_done_29 rfl ?_
    refine e_get (pc := 30) d_md_done_30 fl_md_16 md_g42 rfl ?_
    refine e_iload_n (pc := 33) d_md_done_33 rfl ?_
    refine e_ialdN (pc := 34) d_md_done_34 (f := (L.2.2.1)) md_g45 (by omega) (by decide) ?_
    refine e_iastN (pc := 35) d_md_done_35 md_g62 (by omega) (by decide) ?_
    rw [md_u62]
    show q_Ev l G m_md_done 2 49 0 0 36 [some (.ref (42)), some (.int (nI (e))), some (.int (ldI srv)), some (.int (nI (((L.2.1)) (e)))), none] [] (md_put h (((A.1), (A.2.1), (A.2.2.1), (A.2.2.2)), ((L.1), (L.2.1), (L.2.2.1), (L.2.2.2)), ((S.1), (S.2.1), (S.2.2.1), (S.2.2.2.1), (S.2.2.2.2)), ((C.1), (C.2.1), (C.2.2.1), (C.2.2.2.1), (C.2.2.2.2)), ((W.1), (W.2.1), (W.2.2.1), (W.2.2.2)), ((va_up ((T.1)) (((L.2.1)) (e)) (true)), (upd ((T.2.1)) (((L.2.1)) (e)) ((((L.2.2.1)) (e)))), (T.2.2.1), (T.2.2.2.1), (T.2.2.2.2)))) N _
    refine e_aload_n (pc := 36) d_md_done_36 rfl ?_
    refine e_get (pc := 37) d_md_done_37 fl_md_75 md_g42 rfl ?_
    refine e_iload_n (pc := 40) d_md_done_40 rfl ?_
    refine e_iconst (pc := 41) d_md_done_41 (v := (nI (0))) rfl ?_
    refine e_iastN (pc := 42) d_md_done_42 md_g63 (by omega) (by decide) ?_
    rw [md_u63]
    show q_Ev l G m_md_done 2 49 0 0 43 [some (.ref (42)), some (.int (nI (e))), some (.int (ldI srv)), some (.int (nI (((L.2.1)) (e)))), none] [] (md_put h (((A.1), (A.2.1), (A.2.2.1), (A.2.2.2)), ((L.1), (L.2.1), (L.2.2.1), (L.2.2.2)), ((S.1), (S.2.1), (S.2.2.1), (S.2.2.2.1), (S.2.2.2.2)), ((C.1), (C.2.1), (C.2.2.1), (C.2.2.2.1), (C.2.2.2.2)), ((W.1), (W.2.1), (W.2.2.1), (W.2.2.2)), ((va_up ((T.1)) (((L.2.1)) (e)) (true)), (upd ((T.2.1)) (((L.2.1)) (e)) ((((L.2.2.1)) (e)))), (upd ((T.2.2.1)) (((L.2.1)) (e)) ((nI (0)))), (T.2.2.2.1), (T.2.2.2.2)))) N _
    refine e_aload_n (pc := 43) d_md_done_43 rfl ?_
    refine e_get (pc := 44) d_md_done_44 fl_md_78 md_g42 rfl ?_
    refine e_iload_n (pc := 47) d_md_done_47 rfl ?_
    refine e_iconst (pc := 48) d_md_done_48 (v := (nI (0))) rfl ?_
    refine e_nastN (pc := 49) d_md_done_49 (f := (T.2.2.2.1)) md_g64 (by omega) (by decide) ?_
    rw [md_u64]
    show q_Ev l G m_md_done 2 49 0 0 50 [some (.ref (42)), some (.int (nI (e))), some (.int (ldI srv)), some (.int (nI (((L.2.1)) (e)))), none] [] (md_put h (((A.1), (A.2.1), (A.2.2.1), (A.2.2.2)), ((L.1), (L.2.1), (L.2.2.1), (L.2.2.2)), ((S.1), (S.2.1), (S.2.2.1), (S.2.2.2.1), (S.2.2.2.2)), ((C.1), (C.2.1), (C.2.2.1), (C.2.2.2.1), (C.2.2.2.2)), ((W.1), (W.2.1), (W.2.2.1), (W.2.2.2)), ((va_up ((T.1)) (((L.2.1)) (e)) (true)), (upd ((T.2.1)) (((L.2.1)) (e)) ((((L.2.2.1)) (e)))), (upd ((T.2.2.1)) (((L.2.1)) (e)) ((nI (0)))), (va_up ((T.2.2.2.1)) (((L.2.1)) (e)) (0)), (T.2.2.2.2)))) N _
    refine e_aload_n (pc := 50) d_md_done_50 rfl ?_
    refine e_get (pc := 51) d_md_done_51 fl_md_81 md_g42 rfl ?_
    refine e_iload_n (pc := 54) d_md_done_54 rfl ?_
    refine e_aload_n (pc := 55) d_md_done_55 rfl ?_
    refine e_get (pc := 56) d_md_done_56 fl_md_19 md_g42 rfl ?_
    refine e_iload_n (pc := 59) d_md_done_59 rfl ?_
    refine e_ialdN (pc := 60) d_md_done_60 (f := (L.2.2.2)) md_g46 (by omega) (by decide) ?_
    refine e_iastN (pc := 61) d_md_done_61 md_g65 (by omega) (by decide) ?_
    rw [md_u65]
    show q_Ev l G m_md_done 2 49 0 0 62 [some (.ref (42)), some (.int (nI (e))), some (.int (ldI srv)), some (.int (nI (((L.2.1)) (e)))), none] [] (md_put h (((A.1), (A.2.1), (A.2.2.1), (A.2.2.2)), ((L.1), (L.2.1), (L.2.2.1), (L.2.2.2)), ((S.1), (S.2.1), (S.2.2.1), (S.2.2.2.1), (S.2.2.2.2)), ((C.1), (C.2.1), (C.2.2.1), (C.2.2.2.1), (C.2.2.2.2)), ((W.1), (W.2.1), (W.2.2.1), (W.2.2.2)), ((va_up ((T.1)) (((L.2.1)) (e)) (true)), (upd ((T.2.1)) (((L.2.1)) (e)) ((((L.2.2.1)) (e)))), (upd ((T.2.2.1)) (((L.2.1)) (e)) ((nI (0)))), (va_up ((T.2.2.2.1)) (((L.2.1)) (e)) (0)), (upd ((T.2.2.2.2)) (((L.2.1)) (e)) ((((L.2.2.2)) (e))))))) N _
    refine e_aload_n (pc := 62) d_md_done_62 rfl ?_
    refine e_get (pc := 63) d_md_done_63 fl_md_7 md_g42 rfl ?_
    refine e_iload_n (pc := 66) d_md_done_66 rfl ?_
    refine e_naldN (pc := 67) d_md_done_67 (f := (L.1)) md_g43 (by omega) (by decide) ?_
    refine e_iconst (pc := 68) d_md_done_68 (v := (nI (1))) rfl ?_
    refine e_icmp_neN (pc := 69) (tgt := 90) d_md_done_69 (by decide) (by omega) (by omega) (fun c2 => ?_) (fun c2 => ?_)
    · refine e_aload_n (pc := 90) d_md_done_90 rfl ?_
      refine e_iload_n (pc := 91) d_md_done_91 rfl ?_
      refine e_iload_n (pc := 92) d_md_done_92 rfl ?_
      refine e_iconst (pc := 93) d_md_done_93 (v := (nI (1))) rfl ?_
      refine e_callV (As := [.int (ldI srv), .int (nI (((L.2.1)) (e))), .int (nI (1))]) (st := []) (cc2 := 0) (ss2 := 0) (pc := 94) d_md_done_94 rfl cv_md_91 md_g42 rfl (c_md_tell1 htr hsv hC hW hE2) rfl (by decide) (by decide) (by omega) (by omega) (Nat.le_of_ble_eq_true rfl) (fun _ _ _ hq => nomatch hq.1) (fun r h2 N2 hq => ?_)
      obtain ⟨hr, e1, e2⟩ := hq
      cases hr
      rw [e1, e2]
      clear e1 e2
      show q_Ev l G m_md_done 2 49 0 0 97 [some (.ref (42)), some (.int (nI (e))), some (.int (ldI srv)), some (.int (nI (((L.2.1)) (e)))), none] [] _ N _
      refine e_goto (pc := 97) (tgt := 228) d_md_done_97 (by decide) ?_
      exact e_vret (pc := 228) d_md_done_228 rfl (⟨rfl, by unfold dnW dnT; rw [if_pos c, if_pos c, if_neg c2], rfl⟩)
    · have hp1 := hE3 c2
      refine e_aload_n (pc := 72) d_md_done_72 rfl ?_
      refine e_get (pc := 73) d_md_done_73 fl_md_78 md_g42 rfl ?_
      refine e_aload_n (pc := 76) d_md_done_76 rfl ?_
      refine e_iload_n (pc := 77) d_md_done_77 rfl ?_
      refine e_callV (As := [.int (nI (((L.2.1)) (e)))]) (st := [.ref (64)]) (cc2 := 0) (ss2 := 0) (pc := 78) d_md_done_78 rfl cv_md_87 md_g42 rfl (c_md_parent htr hE2) rfl (by decide) (by decide) (by omega) (by omega) (Nat.le_of_ble_eq_true rfl) (fun _ _ _ hq => nomatch hq.1) (fun r h2 N2 hq => ?_)
      obtain ⟨hr, e1, e2⟩ := hq
      cases hr
      rw [e1, e2]
      clear e1 e2
      show q_Ev l G m_md_done 2 49 0 0 81 [some (.ref (42)), some (.int (nI (e))), some (.int (ldI srv)), some (.int (nI (((L.2.1)) (e)))), none] [.int (nI ((L.2.1 e - 1) / 6)), .ref (64)] (md_put h (((A.1), (A.2.1), (A.2.2.1), (A.2.2.2)), ((L.1), (L.2.1), (L.2.2.1), (L.2.2.2)), ((S.1), (S.2.1), (S.2.2.1), (S.2.2.2.1), (S.2.2.2.2)), ((C.1), (C.2.1), (C.2.2.1), (C.2.2.2.1), (C.2.2.2.2)), ((W.1), (W.2.1), (W.2.2.1), (W.2.2.2)), ((va_up ((T.1)) (((L.2.1)) (e)) (true)), (upd ((T.2.1)) (((L.2.1)) (e)) ((((L.2.2.1)) (e)))), (upd ((T.2.2.1)) (((L.2.1)) (e)) ((nI (0)))), (va_up ((T.2.2.2.1)) (((L.2.1)) (e)) (0)), (upd ((T.2.2.2.2)) (((L.2.1)) (e)) ((((L.2.2.2)) (e))))))) N _
      refine e_iload_n (pc := 81) d_md_done_81 rfl ?_
      refine e_iconst (pc := 82) d_md_done_82 (v := (nI (1))) rfl ?_
      refine e_isubN (pc := 83) d_md_done_83 (by omega) ?_
      refine e_bipush (pc := 84) d_md_done_84 (v := (nI (6))) rfl ?_
      refine e_iremN (pc := 86) d_md_done_86 (by omega) (by decide) (by decide) ?_
      refine e_iconst (pc := 87) d_md_done_87 (v := (nI (1))) rfl ?_
      refine e_iaddN (pc := 88) d_md_done_88  ?_
      refine e_nastN (pc := 89) d_md_done_89 (f := (va_up ((T.2.2.2.1)) (((L.2.1)) (e)) (0))) md_g64 (by omega) (by decide) ?_
      rw [md_u64]
      show q_Ev l G m_md_done 2 49 0 0 90 [some (.ref (42)), some (.int (nI (e))), some (.int (ldI srv)), some (.int (nI (((L.2.1)) (e)))), none] [] (md_put h (((A.1), (A.2.1), (A.2.2.1), (A.2.2.2)), ((L.1), (L.2.1), (L.2.2.1), (L.2.2.2)), ((S.1), (S.2.1), (S.2.2.1), (S.2.2.2.1), (S.2.2.2.2)), ((C.1), (C.2.1), (C.2.2.1), (C.2.2.2.1), (C.2.2.2.2)), ((W.1), (W.2.1), (W.2.2.1), (W.2.2.2)), ((va_up ((T.1)) (((L.2.1)) (e)) (true)), (upd ((T.2.1)) (((L.2.1)) (e)) ((((L.2.2.1)) (e)))), (upd ((T.2.2.1)) (((L.2.1)) (e)) ((nI (0)))), (va_up ((va_up ((T.2.2.2.1)) (((L.2.1)) (e)) (0))) ((L.2.1 e - 1) / 6) ((((((L.2.1)) (e)) - (1)) % (6)) + (1))), (upd ((T.2.2.2.2)) (((L.2.1)) (e)) ((((L.2.2.2)) (e))))))) N _
      refine e_aload_n (pc := 90) d_md_done_90 rfl ?_
      refine e_iload_n (pc := 91) d_md_done_91 rfl ?_
      refine e_iload_n (pc := 92) d_md_done_92 rfl ?_
      refine e_iconst (pc := 93) d_md_done_93 (v := (nI (1))) rfl ?_
      refine e_callV (As := [.int (ldI srv), .int (nI (((L.2.1)) (e))), .int (nI (1))]) (st := []) (cc2 := 0) (ss2 := 0) (pc := 94) d_md_done_94 rfl cv_md_91 md_g42 rfl (c_md_tell1 htr hsv hC hW hE2) rfl (by decide) (by decide) (by omega) (by omega) (Nat.le_of_ble_eq_true rfl) (fun _ _ _ hq => nomatch hq.1) (fun r h2 N2 hq => ?_)
      obtain ⟨hr, e1, e2⟩ := hq
      cases hr
      rw [e1, e2]
      clear e1 e2
      show q_Ev l G m_md_done 2 49 0 0 97 [some (.ref (42)), some (.int (nI (e))), some (.int (ldI srv)), some (.int (nI (((L.2.1)) (e)))), none] [] _ N _
      refine e_goto (pc := 97) (tgt := 228) d_md_done_97 (by decide) ?_
      exact e_vret (pc := 228) d_md_done_228 rfl (⟨rfl, by unfold dnW dnT; rw [if_pos c, if_pos c, if_pos c2], rfl⟩)
set_option maxHeartbeats 4000000 in
set_option maxRecDepth 100000 in
theorem lp_md_grow {l : Launch} {G : q_G} (htr : l.stackTraces = false) {h : q_H} {N : Nat} {A : mA} {L : mL} {S : mS} {C : mC} {W : mW} (hC : mCo C) (hW : mWo W) {b n : Nat} (hb : b < 3) (hn : n ≤ 80) (hL : ∀ k, k < n → mEo L (80 * b + k)) : ∀ (g k : Nat) (T : mT), k + g = n → q_Ev l G m_md_grow 3 73 0 0 6 [some (.ref (42)), some (.int (nI (b))), some (.int (nI (n))), some (.int (nI (k)))] [] (md_put h (((A.1), (A.2.1), (A.2.2.1), (A.2.2.2)), ((L.1), (L.2.1), (L.2.2.1), (L.2.2.2)), ((S.1), (S.2.1), (S.2.2.1), (S.2.2.2.1), (S.2.2.2.2)), ((C.1), (C.2.1), (C.2.2.1), (C.2.2.2.1), (C.2.2.2.2)), ((W.1), (W.2.1), (W.2.2.1), (W.2.2.2)), ((T.1), (T.2.1), (T.2.2.1), (T.2.2.2.1), (T.2.2.2.2)))) N (q_To (none) (md_put h (A, L, S, C, W, grF L b g k T)) N) := by
  intro g
  induction g with
  | zero =>
    intro k T he
    have hkn : k = n := by omega
    subst hkn
    refine e_iload_n (pc := 6) d_md_grow_6 rfl ?_
    refine e_iload_n (pc := 7) d_md_grow_7 rfl ?_
    refine e_icmp_geN (pc := 8) (tgt := 28) d_md_grow_8 (by decide) (by omega) (by omega) (fun c => ?_) (fun c => ?_)
    · exact e_vret (pc := 28) d_md_grow_28 rfl (⟨rfl, rfl, rfl⟩)
    · omega
  | succ g ih =>
    intro k T he
    refine e_iload_n (pc := 6) d_md_grow_6 rfl ?_
    refine e_iload_n (pc := 7) d_md_grow_7 rfl ?_
    refine e_icmp_geN (pc := 8) (tgt := 28) d_md_grow_8 (by decide) (by omega) (by omega) (fun c => ?_) (fun c => ?_)
    · omega
    · refine e_aload_n (pc := 11) d_md_grow_11 rfl ?_
      refine e_bipush (pc := 12) d_md_grow_12 (v := (nI (80))) rfl ?_
      refine e_iload_n (pc := 14) d_md_grow_14 rfl ?_
      refine e_imulN (pc := 15) d_md_grow_15  ?_
      refine e_iload_n (pc := 16) d_md_grow_16 rfl ?_
      refine e_iaddN (pc := 17) d_md_grow_17  ?_
      refine e_iconst (pc := 18) d_md_grow_18 (v := (-1)) rfl ?_
      refine e_callV (As := [.int (nI (((80) * (b)) + (k))), .int (-1)]) (st := []) (cc2 := 0) (ss2 := 0) (pc := 19) d_md_grow_19 rfl cv_md_98 md_g42 rfl (c_md_done (srv := none) htr (fun _ z => nomatch z) hC hW (show 80 * b + k < 240 by omega) (hL k c)) rfl (by decide) (by decide) (by omega) (by omega) (Nat.le_of_ble_eq_true rfl) (fun _ _ _ hq => nomatch hq.1) (fun r h2 N2 hq => ?_)
      obtain ⟨hr, e1, e2⟩ := hq
      cases hr
      rw [e1, e2]
      clear e1 e2
      show q_Ev l G m_md_grow 3 73 0 0 22 [some (.ref (42)), some (.int (nI (b))), some (.int (nI (n))), some (.int (nI (k)))] [] _ N _
      rw [dnW_none]
      show q_Ev l G m_md_grow 3 73 0 0 22 [some (.ref (42)), some (.int (nI (b))), some (.int (nI (n))), some (.int (nI (k)))] [] (md_put h (((A.1), (A.2.1), (A.2.2.1), (A.2.2.2)), ((L.1), (L.2.1), (L.2.2.1), (L.2.2.2)), ((S.1), (S.2.1), (S.2.2.1), (S.2.2.2.1), (S.2.2.2.2)), ((C.1), (C.2.1), (C.2.2.1), (C.2.2.2.1), (C.2.2.2.2)), ((W.1), (W.2.1), (W.2.2.1), (W.2.2.2)), (((dnL L (80 * b + k) T).1), ((dnL L (80 * b + k) T).2.1), ((dnL L (80 * b + k) T).2.2.1), ((dnL L (80 * b + k) T).2.2.2.1), ((dnL L (80 * b + k) T).2.2.2.2)))) N _
      refine e_iincN (pc := 22) d_md_grow_22 (a := k) (b := 1) rfl rfl (by decide) ?_
      refine e_goto (pc := 25) (tgt := 6) d_md_grow_25 (by decide) ?_
      exact ih (k + 1) _ (by omega)
set_option maxHeartbeats 4000000 in
set_option maxRecDepth 100000 in
theorem c_md_grow {l : Launch} {G : q_G} (htr : l.stackTraces = false) {h : q_H} {N : Nat} {A : mA} {L : mL} {S : mS} {C : mC} {W : mW} {T : mT} (hC : mCo C) (hW : mWo W) {b n : Nat} (hb : b < 3) (hn : n ≤ 80) (hL : ∀ k, k < n → mEo L (80 * b + k)) : q_Met l G m_md_grow 3 73 0 0 [.ref (42), .int (nI (b)), .int (nI (n))] (md_put h (A, L, S, C, W, T)) N (q_To (none) (md_put h (A, L, S, C, W, grT L b n T)) N) := by
  refine q_Met.mk htr (by decide +kernel) rfl (List.forall_mem_cons.mpr ⟨rfl, List.forall_mem_cons.mpr ⟨rfl, List.forall_mem_cons.mpr ⟨rfl, fun _ h => nomatch h⟩⟩⟩) (Nat.le_of_ble_eq_true rfl) ?_
  refine e_aload_n (pc := 0) d_md_grow_0 rfl ?_
  refine e_callV (As := []) (st := []) (cc2 := 0) (ss2 := 0) (pc := 1) d_md_grow_1 rfl cv_md_95 md_g42 rfl (c_md_plant htr) rfl (by decide) (by decide) (by omega) (by omega) (Nat.le_of_ble_eq_true rfl) (fun _ _ _ hq => nomatch hq.1) (fun r h2 N2 hq => ?_)
  obtain ⟨hr, e1, e2⟩ := hq
  cases hr
  rw [e1, e2]
  clear e1 e2
  show q_Ev l G m_md_grow 3 73 0 0 4 [some (.ref (42)), some (.int (nI (b))), some (.int (nI (n))), none] [] _ N _
  show q_Ev l G m_md_grow 3 73 0 0 4 [some (.ref (42)), some (.int (nI (b))), some (.int (nI (n))), none] [] (md_put h (((A.1), (A.2.1), (A.2.2.1), (A.2.2.2)), ((L.1), (L.2.1), (L.2.2.1), (L.2.2.2)), ((S.1), (S.2.1), (S.2.2.1), (S.2.2.2.1), (S.2.2.2.2)), ((C.1), (C.2.1), (C.2.2.1), (C.2.2.2.1), (C.2.2.2.2)), ((W.1), (W.2.1), (W.2.2.1), (W.2.2.2)), (((plT T).1), ((plT T).2.1), ((plT T).2.2.1), ((plT T).2.2.2.1), ((plT T).2.2.2.2)))) N _
  refine e_iconst (pc := 4) d_md_grow_4 (v := (nI (0))) rfl ?_
  refine e_istore_n (pc := 5) d_md_grow_5 (by decide) ?_
  exact lp_md_grow htr hC hW hb hn hL n 0 (plT T) (by omega)

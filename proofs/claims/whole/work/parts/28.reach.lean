/-! THE CLASS: reach, treeOf, isOtherVersion; any ENTRY played and heard -/
theorem ldI_eq {o : Option Nat} {i : Nat} (h : ∀ k, o = some k → k < 3) (hi : i < 3) : nI i = ldI o ↔ o = some i := by
  cases o with
  | none =>
    refine ⟨fun z => ?_, fun z => nomatch z⟩
    rcases (by omega : i = 0 ∨ i = 1 ∨ i = 2) with rfl | rfl | rfl <;> exact absurd z (by decide)
  | some k =>
    have hk := h k rfl
    show nI i = nI k ↔ _
    rw [nI_eq (by omega) (by omega)]
    exact ⟨fun z => by rw [z], fun z => (Option.some.inj z).symm⟩
/-- REACHES -/
def z_rc (R : zR) (j : Nat) : Bool := s_op (z_S R j) && v_up (z_V R (s_sv (z_S R j))) && (z_lk R (s_sv (z_S R j)) || decide (z_ld R = some (s_sv (z_S R j))))
/-- CONNECTED -/
def z_cn (R : zR) (j : Nat) : Bool := s_op (z_S R j) && v_up (z_V R (s_sv (z_S R j)))
def z_ow (R : zR) (p : Nat) (v : Int32) : Bool := decide (v ≠ -1 ∧ v ≠ (z_P R).2.1 p)
set_option maxHeartbeats 4000000 in
set_option maxRecDepth 100000 in
theorem c_zs_requireReach {l : Launch} {G : q_G} (htr : l.stackTraces = false) {h : q_H} {N : Nat} {R : zR} (hR : z_ok R) {j : Nat} (hj : j < 4) (hs : s_sv (z_S R j) < 3) : q_Met l G m_zs_requireReach 6 85 1 6 [.ref (1), .int (nI (j))] (zs_put h R) N (q_Rq (z_rc R j = true) "java/lang/IllegalStateException" (zs_put h R) N) := by
  refine q_Met.mk htr (by decide +kernel) rfl (List.forall_mem_cons.mpr ⟨rfl, List.forall_mem_cons.mpr ⟨rfl, fun _ h => nomatch h⟩⟩) (Nat.le_of_ble_eq_true rfl) ?_
  refine e_aload_n (pc := 0) d_zs_requireReach_0 rfl ?_
  refine e_get (pc := 1) d_zs_requireReach_1 fl_zs_17 zs_g1 rfl ?_
  refine e_iload_n (pc := 4) d_zs_requireReach_4 rfl ?_
  refine e_aaldN (pc := 5) d_zs_requireReach_5 zs_g3 (fun _ => rfl) (by omega) (by decide) rfl ?_
  refine e_astore_n (pc := 6) d_zs_requireReach_6 (by decide) ?_
  refine e_aload_n (pc := 7) d_zs_requireReach_7 rfl ?_
  refine e_get (pc := 8) d_zs_requireReach_8 fl_zs_51 (zs_s hj).1 rfl ?_
  refine e_ifB_eq (pc := 11) (tgt := 55) d_zs_requireReach_11 (by decide) (fun c1 => ?_) (fun c1 => ?_)
  · refine e_iconst (pc := 55) d_zs_requireReach_55 (v := (bI (false))) rfl ?_
    refine e_istore_n (pc := 56) d_zs_requireReach_56 (by decide) ?_
    refine e_iload_n (pc := 57) d_zs_requireReach_57 rfl ?_
    refine e_ifB_ne (pc := 58) (tgt := 69) d_zs_requireReach_58 (by decide) (fun z => nomatch z) (fun _ => ?_)
    exact e_throw (pc := 61) rfl xx_zs_66 d_zs_requireReach_61 d_zs_requireReach_64 d_zs_requireReach_65 d_zs_requireReach_68 (by decide) (Nat.le_of_ble_eq_true rfl) (by omega) (by omega) (fun N2 hN => ⟨rfl, hN, Or.inr ⟨by simp [z_rc, c1], rfl⟩⟩)
  · refine e_aload_n (pc := 14) d_zs_requireReach_14 rfl ?_
    refine e_get (pc := 15) d_zs_requireReach_15 fl_zs_11 zs_g1 rfl ?_
    refine e_aload_n (pc := 18) d_zs_requireReach_18 rfl ?_
    refine e_get (pc := 19) d_zs_requireReach_19 fl_zs_100 (zs_s hj).1 rfl ?_
    refine e_aaldN (pc := 22) d_zs_requireReach_22 zs_g2 (fun _ => rfl) (by omega) (by decide) rfl ?_
    refine e_get (pc := 23) d_zs_requireReach_23 fl_zs_97 (zs_v hs).1 rfl ?_
    refine e_ifB_eq (pc := 26) (tgt := 55) d_zs_requireReach_26 (by decide) (fun c2 => ?_) (fun c2 => ?_)
    · refine e_iconst (pc := 55) d_zs_requireReach_55 (v := (bI (false))) rfl ?_
      refine e_istore_n (pc := 56) d_zs_requireReach_56 (by decide) ?_
      refine e_iload_n (pc := 57) d_zs_requireReach_57 rfl ?_
      refine e_ifB_ne (pc := 58) (tgt := 69) d_zs_requireReach_58 (by decide) (fun z => nomatch z) (fun _ => ?_)
      exact e_throw (pc := 61) rfl xx_zs_66 d_zs_requireReach_61 d_zs_requireReach_64 d_zs_requireReach_65 d_zs_requireReach_68 (by decide) (Nat.le_of_ble_eq_true rfl) (by omega) (by omega) (fun N2 hN => ⟨rfl, hN, Or.inr ⟨by simp [z_rc, c1, c2], rfl⟩⟩)
    · refine e_aload_n (pc := 29) d_zs_requireReach_29 rfl ?_
      refine e_aload_n (pc := 30) d_zs_requireReach_30 rfl ?_
      refine e_get (pc := 31) d_zs_requireReach_31 fl_zs_100 (zs_s hj).1 rfl ?_
      refine e_callV (As := [.int (nI (s_sv (z_S R j)))]) (st := []) (cc2 := 1) (ss2 := 6) (pc := 34) d_zs_requireReach_34 rfl cv_zs_58 zs_g1 rfl (c_zs_isLinked htr hR hs) rfl (by decide) (by decide) (by omega) (by omega) (Nat.le_of_ble_eq_true rfl) (fun _ _ _ hq => nomatch hq.1) (fun r h2 N2 hq => ?_)
      obtain ⟨hr, e1, e2⟩ := hq
      cases hr
      rw [e1, e2]
      clear e1 e2
      show q_Ev l G m_zs_requireReach 6 85 1 6 37 [some (.ref (1)), some (.int (nI (j))), some (.ref (30 + 3 * (j))), none] [.int (bI (z_lk R (s_sv (z_S R j))))] (zs_put h R) N _
      refine e_ifB_ne (pc := 37) (tgt := 51) d_zs_requireReach_37 (by decide) (fun c3 => ?_) (fun c3 => ?_)
      · refine e_iconst (pc := 51) d_zs_requireReach_51 (v := (bI (true))) rfl ?_
        refine e_goto (pc := 52) (tgt := 56) d_zs_requireReach_52 (by decide) ?_
        refine e_istore_n (pc := 56) d_zs_requireReach_56 (by decide) ?_
        refine e_iload_n (pc := 57) d_zs_requireReach_57 rfl ?_
        refine e_ifB_ne (pc := 58) (tgt := 69) d_zs_requireReach_58 (by decide) (fun _ => ?_) (fun z => nomatch z)
        exact e_vret (pc := 69) d_zs_requireReach_69 rfl (⟨rfl, Nat.le_refl _, Or.inl ⟨by simp [z_rc, c1, c2, c3], rfl, rfl⟩⟩)
      · refine e_aload_n (pc := 40) d_zs_requireReach_40 rfl ?_
        refine e_get (pc := 41) d_zs_requireReach_41 fl_zs_100 (zs_s hj).1 rfl ?_
        refine e_aload_n (pc := 44) d_zs_requireReach_44 rfl ?_
        refine e_get (pc := 45) d_zs_requireReach_45 fl_zs_28 zs_g1 rfl ?_
        refine e_icmp_ne (pc := 48) (tgt := 55) d_zs_requireReach_48 (by decide) (fun c4 => ?_) (fun c4 => ?_)
        · refine e_iconst (pc := 55) d_zs_requireReach_55 (v := (bI (false))) rfl ?_
          refine e_istore_n (pc := 56) d_zs_requireReach_56 (by decide) ?_
          refine e_iload_n (pc := 57) d_zs_requireReach_57 rfl ?_
          refine e_ifB_ne (pc := 58) (tgt := 69) d_zs_requireReach_58 (by decide) (fun z => nomatch z) (fun _ => ?_)
          exact e_throw (pc := 61) rfl xx_zs_66 d_zs_requireReach_61 d_zs_requireReach_64 d_zs_requireReach_65 d_zs_requireReach_68 (by decide) (Nat.le_of_ble_eq_true rfl) (by omega) (by omega) (fun N2 hN => ⟨rfl, hN, Or.inr ⟨by have := mt (ldI_eq hR hs).mpr c4; simp [z_rc, c1, c2, c3, this], rfl⟩⟩)
        · refine e_iconst (pc := 51) d_zs_requireReach_51 (v := (bI (true))) rfl ?_
          refine e_goto (pc := 52) (tgt := 56) d_zs_requireReach_52 (by decide) ?_
          refine e_istore_n (pc := 56) d_zs_requireReach_56 (by decide) ?_
          refine e_iload_n (pc := 57) d_zs_requireReach_57 rfl ?_
          refine e_ifB_ne (pc := 58) (tgt := 69) d_zs_requireReach_58 (by decide) (fun _ => ?_) (fun z => nomatch z)
          exact e_vret (pc := 69) d_zs_requireReach_69 rfl (⟨rfl, Nat.le_refl _, Or.inl ⟨by have := (ldI_eq hR hs).mp c4; simp [z_rc, c1, c2, this], rfl, rfl⟩⟩)
set_option maxHeartbeats 4000000 in
set_option maxRecDepth 100000 in
theorem c_zs_treeOf {l : Launch} {G : q_G} (htr : l.stackTraces = false) {h : q_H} {N : Nat} {R : zR} {j : Nat} (hj : j < 4) (hs : s_sv (z_S R j) < 3) : q_Met l G m_zs_treeOf 6 85 1 6 [.ref (1), .int (nI (j))] (zs_put h R) N (fun o h' N' => h' = zs_put h R ∧ N ≤ N' ∧ ((z_cn R j = true ∧ o = .inl (some (.ref (9 + 7 * (s_sv (z_S R j)) + 2))) ∧ N' = N) ∨ (z_cn R j = false ∧ o = .inr "java/lang/IllegalStateException"))) := by
  refine q_Met.mk htr (by decide +kernel) rfl (List.forall_mem_cons.mpr ⟨rfl, List.forall_mem_cons.mpr ⟨rfl, fun _ h => nomatch h⟩⟩) (Nat.le_of_ble_eq_true rfl) ?_
  refine e_aload_n (pc := 0) d_zs_treeOf_0 rfl ?_
  refine e_get (pc := 1) d_zs_treeOf_1 fl_zs_17 zs_g1 rfl ?_
  refine e_iload_n (pc := 4) d_zs_treeOf_4 rfl ?_
  refine e_aaldN (pc := 5) d_zs_treeOf_5 zs_g3 (fun _ => rfl) (by omega) (by decide) rfl ?_
  refine e_astore_n (pc := 6) d_zs_treeOf_6 (by decide) ?_
  refine e_aload_n (pc := 7) d_zs_treeOf_7 rfl ?_
  refine e_get (pc := 8) d_zs_treeOf_8 fl_zs_51 (zs_s hj).1 rfl ?_
  refine e_ifB_eq (pc := 11) (tgt := 29) d_zs_treeOf_11 (by decide) (fun c1 => ?_) (fun c1 => ?_)
  · exact e_throw (pc := 29) rfl xx_zs_66 d_zs_treeOf_29 d_zs_treeOf_32 d_zs_treeOf_33 d_zs_treeOf_36 (by decide) (Nat.le_of_ble_eq_true rfl) (by omega) (by omega) (fun N2 hN => ⟨rfl, hN, Or.inr ⟨by simp [z_cn, c1], rfl⟩⟩)
  · refine e_aload_n (pc := 14) d_zs_treeOf_14 rfl ?_
    refine e_get (pc := 15) d_zs_treeOf_15 fl_zs_11 zs_g1 rfl ?_
    refine e_aload_n (pc := 18) d_zs_treeOf_18 rfl ?_
    refine e_get (pc := 19) d_zs_treeOf_19 fl_zs_100 (zs_s hj).1 rfl ?_
    refine e_aaldN (pc := 22) d_zs_treeOf_22 zs_g2 (fun _ => rfl) (by omega) (by decide) rfl ?_
    refine e_get (pc := 23) d_zs_treeOf_23 fl_zs_97 (zs_v hs).1 rfl ?_
    refine e_ifB_ne (pc := 26) (tgt := 37) d_zs_treeOf_26 (by decide) (fun c2 => ?_) (fun c2 => ?_)
    · refine e_aload_n (pc := 37) d_zs_treeOf_37 rfl ?_
      refine e_get (pc := 38) d_zs_treeOf_38 fl_zs_11 zs_g1 rfl ?_
      refine e_aload_n (pc := 41) d_zs_treeOf_41 rfl ?_
      refine e_get (pc := 42) d_zs_treeOf_42 fl_zs_100 (zs_s hj).1 rfl ?_
      refine e_aaldN (pc := 45) d_zs_treeOf_45 zs_g2 (fun _ => rfl) (by omega) (by decide) rfl ?_
      refine e_get (pc := 46) d_zs_treeOf_46 fl_zs_205 (zs_v hs).1 rfl ?_
      exact e_aret (pc := 49) d_zs_treeOf_49 rfl (⟨rfl, Nat.le_refl _, Or.inl ⟨by simp [z_cn, c1, c2], rfl, rfl⟩⟩)
    · exact e_throw (pc := 29) rfl xx_zs_66 d_zs_treeOf_29 d_zs_treeOf_32 d_zs_treeOf_33 d_zs_treeOf_36 (by decide) (Nat.le_of_ble_eq_true rfl) (by omega) (by omega) (fun N2 hN => ⟨rfl, hN, Or.inr ⟨by simp [z_cn, c1, c2], rfl⟩⟩)
set_option maxHeartbeats 4000000 in
set_option maxRecDepth 100000 in
theorem c_zs_isOtherVersion {l : Launch} {G : q_G} (htr : l.stackTraces = false) {h : q_H} {N : Nat} {R : zR} {p : Nat} {v : Int32} (hp : p < 259) : q_Met l G m_zs_isOtherVersion 0 0 0 0 [.ref (1), .int (nI (p)), .int (v)] (zs_put h R) N (q_Id (some (.int (bI (z_ow R p v)))) (zs_put h R) N) := by
  refine q_Met.mk htr (by decide +kernel) rfl (List.forall_mem_cons.mpr ⟨rfl, List.forall_mem_cons.mpr ⟨rfl, List.forall_mem_cons.mpr ⟨rfl, fun _ h => nomatch h⟩⟩⟩) (Nat.le_of_ble_eq_true rfl) ?_
  refine e_iload_n (pc := 0) d_zs_isOtherVersion_0 rfl ?_
  refine e_iconst (pc := 1) d_zs_isOtherVersion_1 (v := (-1)) rfl ?_
  refine e_icmp_eq (pc := 2) (tgt := 22) d_zs_isOtherVersion_2 (by decide) (fun c1 => ?_) (fun c1 => ?_)
  · refine e_iconst (pc := 22) d_zs_isOtherVersion_22 (v := (bI (false))) rfl ?_
    exact e_retB (pc := 23) d_zs_isOtherVersion_23 rfl (⟨by simp [z_ow, c1], rfl, rfl⟩)
  · refine e_iload_n (pc := 5) d_zs_isOtherVersion_5 rfl ?_
    refine e_aload_n (pc := 6) d_zs_isOtherVersion_6 rfl ?_
    refine e_get (pc := 7) d_zs_isOtherVersion_7 fl_zs_24 zs_g1 rfl ?_
    refine e_get (pc := 10) d_zs_isOtherVersion_10 fl_zs_152 zs_tP.1 rfl ?_
    refine e_iload_n (pc := 13) d_zs_isOtherVersion_13 rfl ?_
    refine e_ialdN (pc := 14) d_zs_isOtherVersion_14 zs_tP.2.2.1 (by omega) (by decide) ?_
    refine e_icmp_eq (pc := 15) (tgt := 22) d_zs_isOtherVersion_15 (by decide) (fun c2 => ?_) (fun c2 => ?_)
    · refine e_iconst (pc := 22) d_zs_isOtherVersion_22 (v := (bI (false))) rfl ?_
      exact e_retB (pc := 23) d_zs_isOtherVersion_23 rfl (⟨by simp [z_ow, c1, c2], rfl, rfl⟩)
    · refine e_iconst (pc := 18) d_zs_isOtherVersion_18 (v := (bI (true))) rfl ?_
      refine e_goto (pc := 19) (tgt := 23) d_zs_isOtherVersion_19 (by decide) ?_
      exact e_retB (pc := 23) d_zs_isOtherVersion_23 rfl (⟨by simp [z_ow, c1, c2], rfl, rfl⟩)
/-- an ENTRY as the class has it: kind, path, data, owner, in sequence -/
abbrev zE : Type := Nat × Nat × Int32 × Int32 × Bool
def en_Is (h : q_H) (a : Nat) (e : zE) : Prop := en_At h a e.1 e.2.1 e.2.2.1 e.2.2.2.1 e.2.2.2.2
def eOK (e : zE) : Prop := e.1 ≤ 3 ∧ (e.1 ≤ 2 → e.2.1 < 259) ∧ (e.1 = 0 → 1 ≤ e.2.1) ∧ (e.1 = 2 → 1 ≤ e.2.1)
def playR (e : zE) (t : zT) : zT :=
  if e.1 = 0 then (upd t.1 e.2.1 e.2.2.1, upd t.2.1 e.2.1 (nI 0), upd t.2.2.1 e.2.1 e.2.2.2.1, mkN t.2.2.2 e.2.1 e.2.2.2.2)
  else if e.1 = 1 then (upd t.1 e.2.1 e.2.2.1, upd t.2.1 e.2.1 (t.2.1 e.2.1 + nI 1), t.2.2.1, t.2.2.2)
  else if e.1 = 2 then (t.1, upd t.2.1 e.2.1 (-1), upd t.2.2.1 e.2.1 (-1), t.2.2.2)
  else (t.1, owdK t.2.1 t.2.2.1 e.2.2.2.1 259, owdK t.2.2.1 t.2.2.1 e.2.2.2.1 259, t.2.2.2)
def hearR (e : zE) (t : zT) (X : wS) : wS :=
  if e.1 = 0 then toS 1 e.2.1 X else if e.1 = 1 then toS 2 e.2.1 X else if e.1 = 2 then toS 3 e.2.1 X else hrK t.2.2.1 e.2.2.2.1 259 X
theorem hearR_8 {e : zE} {t : zT} {X : wS} (h : X.2.2 ≤ 8) : (hearR e t X).2.2 ≤ 8 := by
  unfold hearR
  split
  · exact toS_8 h
  · split
    · exact toS_8 h
    · split
      · exact toS_8 h
      · exact hrK_8 h 259
theorem c_tr_play {l : Launch} {G : q_G} (htr : l.stackTraces = false) {h : q_H} {N t : Nat} {x : zT} (hT : tr_At h t x.1 x.2.1 x.2.2.1 x.2.2.2) {a : Nat} {e : zE} (he : en_Is h a e) (hk : eOK e) (hat : a < t + 1 ∨ t + 4 < a) : q_Met l G m_tr_play 2 44 0 0 [.ref t, .ref a] h N (q_To none (tr_put h t (playR e x).1 (playR e x).2.1 (playR e x).2.2.1 (playR e x).2.2.2) N) := by
  obtain ⟨kd, p, d, o, sq⟩ := e
  obtain ⟨k0, k1, k2, k3⟩ := hk
  dsimp only at k0 k1 k2 k3
  rcases (by omega : kd = 0 ∨ kd = 1 ∨ kd = 2 ∨ kd = 3) with rfl | rfl | rfl | rfl
  · exact c_tr_play_create htr hT he hat (k2 rfl) (k1 (by omega))
  · exact c_tr_play_set htr hT he hat (k1 (by omega))
  · exact c_tr_play_delete htr hT he hat (k1 (by omega))
  · exact c_tr_play_close htr hT he hat
theorem c_ss_hear {l : Launch} {G : q_G} (htr : l.stackTraces = false) {h : q_H} {N s : Nat} {X : wS} {op du : Bool} {sv : Nat} {to he : Int32} (hS : ss_At h s X.1 X.2.1 X.2.2 op du sv to he) (h8 : X.2.2 ≤ 8) {t : Nat} {x : zT} (hT : tr_At h t x.1 x.2.1 x.2.2.1 x.2.2.2) {a : Nat} {e : zE} (he9 : en_Is h a e) (hk : eOK e) (ha : a < s ∨ s + 2 < a) (ht : t + 4 < s ∨ s + 2 < t) : q_Met l G m_ss_hear 2 45 0 0 [.ref s, .ref a, .ref t] h N (q_To none (ss_put h s (hearR e x X).1 (hearR e x X).2.1 (hearR e x X).2.2 op du sv to he) N) := by
  obtain ⟨kd, p, d, o, sq⟩ := e
  obtain ⟨k0, k1, k2, k3⟩ := hk
  dsimp only at k0 k1 k2 k3
  rcases (by omega : kd = 0 ∨ kd = 1 ∨ kd = 2 ∨ kd = 3) with rfl | rfl | rfl | rfl
  · exact c_ss_hear_create htr hS h8 he9 (k1 (by omega)) (k2 rfl)
  · exact c_ss_hear_set htr hS h8 he9 (k1 (by omega))
  · exact c_ss_hear_delete htr hS h8 he9 (k1 (by omega)) (k3 rfl)
  · exact c_ss_hear_close htr hS h8 hT he9 ha ht

/-! TREE: makeNode, play, clear, its constructor -/
theorem q_Ev.hp {l : Launch} {G : q_G} {μ : q_M} {fr lo cc ss pc N : Nat} {lv : List (Option Value)} {st : List Value} {h h1 : q_H} {Q : q_Q} (e : h1 = h) (k : q_Ev l G μ fr lo cc ss pc lv st h1 N Q) : q_Ev l G μ fr lo cc ss pc lv st h N Q := e ▸ k
def en_At (h : q_H) (a kd p : Nat) (d o : Int32) (sq : Bool) : Prop := h a = some (.inr (0, [.int (nI kd), .int (nI p), .int d, .int o, .int (bI sq)]))
/-- the NEXTs behind a CREATE of p -/
def mkN (nx : Nat → Int32) (p : Nat) (sq : Bool) : Nat → Int32 := if sq then upd (if p < 43 then upd nx p (nI 0) else nx) ((p - 1) / 6) (nI (p - (6 * ((p - 1) / 6) + 0 + 1) + 1)) else if p < 43 then upd nx p (nI 0) else nx
set_option maxHeartbeats 4000000 in
set_option maxRecDepth 100000 in
theorem c_tr_makeNode {l : Launch} {G : q_G} (htr : l.stackTraces = false) {h : q_H} {N : Nat} {t : Nat} {dt vr ow nx : Nat → Int32} (hT : tr_At h t dt vr ow nx) {a kd p : Nat} {d o : Int32} {sq : Bool} (he : en_At h a kd p d o sq) (hat : a < t + 1 ∨ t + 4 < a) (h1 : 1 ≤ p) (h2 : p < 259) : q_Met l G m_tr_makeNode 1 21 0 0 [.ref (t), .ref (a)] h N (q_To none (tr_put h t (upd dt p d) (upd vr p (nI 0)) (upd ow p o) (mkN nx p sq)) N) := by
  refine q_Met.mk htr (by decide +kernel) rfl (List.forall_mem_cons.mpr ⟨rfl, List.forall_mem_cons.mpr ⟨rfl, fun _ h => nomatch h⟩⟩) (Nat.le_of_ble_eq_true rfl) ?_
  refine q_Ev.hp (tr_put_id hT) ?_
  refine e_aload_n (pc := 0) d_tr_makeNode_0 rfl ?_
  refine e_get (pc := 1) d_tr_makeNode_1 fl_tr_40 ((tr_gx hat).trans he) rfl ?_
  refine e_istore_n (pc := 4) d_tr_makeNode_4 (by decide) ?_
  refine e_aload_n (pc := 5) d_tr_makeNode_5 rfl ?_
  refine e_get (pc := 6) d_tr_makeNode_6 fl_tr_9 ((tr_gx (by omega)).trans hT.1) rfl ?_
  refine e_iload_n (pc := 9) d_tr_makeNode_9 rfl ?_
  refine e_aload_n (pc := 10) d_tr_makeNode_10 rfl ?_
  refine e_get (pc := 11) d_tr_makeNode_11 fl_tr_43 ((tr_gx hat).trans he) rfl ?_
  refine e_iastN (pc := 14) d_tr_makeNode_14 tr_g1 (by omega) (by decide) ?_
  rw [tr_u1]
  refine e_aload_n (pc := 15) d_tr_makeNode_15 rfl ?_
  refine e_get (pc := 16) d_tr_makeNode_16 fl_tr_15 ((tr_gx (by omega)).trans hT.1) rfl ?_
  refine e_iload_n (pc := 19) d_tr_makeNode_19 rfl ?_
  refine e_iconst (pc := 20) d_tr_makeNode_20 (v := (nI (0))) rfl ?_
  refine e_iastN (pc := 21) d_tr_makeNode_21 tr_g2 (by omega) (by decide) ?_
  rw [tr_u2]
  refine e_aload_n (pc := 22) d_tr_makeNode_22 rfl ?_
  refine e_get (pc := 23) d_tr_makeNode_23 fl_tr_18 ((tr_gx (by omega)).trans hT.1) rfl ?_
  refine e_iload_n (pc := 26) d_tr_makeNode_26 rfl ?_
  refine e_aload_n (pc := 27) d_tr_makeNode_27 rfl ?_
  refine e_get (pc := 28) d_tr_makeNode_28 fl_tr_49 ((tr_gx hat).trans he) rfl ?_
  refine e_iastN (pc := 31) d_tr_makeNode_31 tr_g3 (by omega) (by decide) ?_
  rw [tr_u3]
  refine e_iload_n (pc := 32) d_tr_makeNode_32 rfl ?_
  refine e_bipush (pc := 33) d_tr_makeNode_33 (v := (nI (43))) rfl ?_
  refine e_icmp_geN (pc := 35) (tgt := 45) d_tr_makeNode_35 (by decide) (by omega) (by omega) (fun c => ?_) (fun c => ?_)
  · refine e_aload_n (pc := 45) d_tr_makeNode_45 rfl ?_
    refine e_get (pc := 46) d_tr_makeNode_46 fl_tr_54 ((tr_gx hat).trans he) rfl ?_
    refine e_ifB_eq (pc := 49) (tgt := 72) d_tr_makeNode_49 (by decide) (fun c2 => ?_) (fun c2 => ?_)
    · exact e_vret (pc := 72) d_tr_makeNode_72 rfl (⟨rfl, by simp [mkN, c2, show ¬ p < 43 by omega], rfl⟩)
    · refine e_iload_n (pc := 52) d_tr_makeNode_52 rfl ?_
      refine e_callSN (As := [.int (nI (p))]) (st := []) (cc2 := 0) (ss2 := 0) (pc := 53) d_tr_makeNode_53 cn_tr_58 (c_zs_parentOf htr h1 (by omega)) rfl (by decide) (by decide) (by omega) (by omega) (Nat.le_of_ble_eq_true rfl) (fun _ _ _ hq => nomatch hq.1) (fun r h2 N2 hq => ?_)
      obtain ⟨hr, e1, e2⟩ := hq
      cases hr
      rw [e1, e2]
      clear e1 e2
      show q_Ev l G m_tr_makeNode 1 21 0 0 56 [some (.ref (t)), some (.ref (a)), some (.int (nI (p))), none] [.int (nI ((p - 1) / 6))] (tr_put h (t) (upd (dt) (p) ((d))) (upd (vr) (p) ((nI (0)))) (upd (ow) (p) ((o))) (nx)) N _
      refine e_istore_n (pc := 56) d_tr_makeNode_56 (by decide) ?_
      refine e_aload_n (pc := 57) d_tr_makeNode_57 rfl ?_
      refine e_get (pc := 58) d_tr_makeNode_58 fl_tr_21 ((tr_gx (by omega)).trans hT.1) rfl ?_
      refine e_iload_n (pc := 61) d_tr_makeNode_61 rfl ?_
      refine e_iload_n (pc := 62) d_tr_makeNode_62 rfl ?_
      refine e_iload_n (pc := 63) d_tr_makeNode_63 rfl ?_
      refine e_iconst (pc := 64) d_tr_makeNode_64 (v := (nI (0))) rfl ?_
      refine e_callSN (As := [.int (nI ((p - 1) / 6)), .int (nI (0))]) (st := [.int (nI (p)), .int (nI ((p - 1) / 6)), .ref (t + 4)]) (cc2 := 0) (ss2 := 0) (pc := 65) d_tr_makeNode_65 cn_tr_62 (c_zs_childOf htr (p := (p - 1) / 6) (k := 0)) rfl (by decide) (by decide) (by omega) (by omega) (Nat.le_of_ble_eq_true rfl) (fun _ _ _ hq => nomatch hq.1) (fun r h2 N2 hq => ?_)
      obtain ⟨hr, e1, e2⟩ := hq
      cases hr
      rw [e1, e2]
      clear e1 e2
      show q_Ev l G m_tr_makeNode 1 21 0 0 68 [some (.ref (t)), some (.ref (a)), some (.int (nI (p))), some (.int (nI ((p - 1) / 6)))] [.int (nI (6 * ((p - 1) / 6) + 0 + 1)), .int (nI (p)), .int (nI ((p - 1) / 6)), .ref (t + 4)] (tr_put h (t) (upd (dt) (p) ((d))) (upd (vr) (p) ((nI (0)))) (upd (ow) (p) ((o))) (nx)) N _
      refine e_isubN (pc := 68) d_tr_makeNode_68 (by omega) ?_
      refine e_iconst (pc := 69) d_tr_makeNode_69 (v := (nI (1))) rfl ?_
      refine e_iaddN (pc := 70) d_tr_makeNode_70  ?_
      refine e_iastN (pc := 71) d_tr_makeNode_71 tr_g4 (by omega) (by decide) ?_
      rw [tr_u4]
      exact e_vret (pc := 72) d_tr_makeNode_72 rfl (⟨rfl, by simp [mkN, c2, show ¬ p < 43 by omega], rfl⟩)
  · refine e_aload_n (pc := 38) d_tr_makeNode_38 rfl ?_
    refine e_get (pc := 39) d_tr_makeNode_39 fl_tr_21 ((tr_gx (by omega)).trans hT.1) rfl ?_
    refine e_iload_n (pc := 42) d_tr_makeNode_42 rfl ?_
    refine e_iconst (pc := 43) d_tr_makeNode_43 (v := (nI (0))) rfl ?_
    refine e_iastN (pc := 44) d_tr_makeNode_44 tr_g4 (by omega) (by decide) ?_
    rw [tr_u4]
    refine e_aload_n (pc := 45) d_tr_makeNode_45 rfl ?_
    refine e_get (pc := 46) d_tr_makeNode_46 fl_tr_54 ((tr_gx hat).trans he) rfl ?_
    refine e_ifB_eq (pc := 49) (tgt := 72) d_tr_makeNode_49 (by decide) (fun c2 => ?_) (fun c2 => ?_)
    · exact e_vret (pc := 72) d_tr_makeNode_72 rfl (⟨rfl, by simp [mkN, c2, c], rfl⟩)
    · refine e_iload_n (pc := 52) d_tr_makeNode_52 rfl ?_
      refine e_callSN (As := [.int (nI (p))]) (st := []) (cc2 := 0) (ss2 := 0) (pc := 53) d_tr_makeNode_53 cn_tr_58 (c_zs_parentOf htr h1 (by omega)) rfl (by decide) (by decide) (by omega) (by omega) (Nat.le_of_ble_eq_true rfl) (fun _ _ _ hq => nomatch hq.1) (fun r h2 N2 hq => ?_)
      obtain ⟨hr, e1, e2⟩ := hq
      cases hr
      rw [e1, e2]
      clear e1 e2
      show q_Ev l G m_tr_makeNode 1 21 0 0 56 [some (.ref (t)), some (.ref (a)), some (.int (nI (p))), none] [.int (nI ((p - 1) / 6))] (tr_put h (t) (upd (dt) (p) ((d))) (upd (vr) (p) ((nI (0)))) (upd (ow) (p) ((o))) (upd (nx) (p) ((nI (0))))) N _
      refine e_istore_n (pc := 56) d_tr_makeNode_56 (by decide) ?_
      refine e_aload_n (pc := 57) d_tr_makeNode_57 rfl ?_
      refine e_get (pc := 58) d_tr_makeNode_58 fl_tr_21 ((tr_gx (by omega)).trans hT.1) rfl ?_
      refine e_iload_n (pc := 61) d_tr_makeNode_61 rfl ?_
      refine e_iload_n (pc := 62) d_tr_makeNode_62 rfl ?_
      refine e_iload_n (pc := 63) d_tr_makeNode_63 rfl ?_
      refine e_iconst (pc := 64) d_tr_makeNode_64 (v := (nI (0))) rfl ?_
      refine e_callSN (As := [.int (nI ((p - 1) / 6)), .int (nI (0))]) (st := [.int (nI (p)), .int (nI ((p - 1) / 6)), .ref (t + 4)]) (cc2 := 0) (ss2 := 0) (pc := 65) d_tr_makeNode_65 cn_tr_62 (c_zs_childOf htr (p := (p - 1) / 6) (k := 0)) rfl (by decide) (by decide) (by omega) (by omega) (Nat.le_of_ble_eq_true rfl) (fun _ _ _ hq => nomatch hq.1) (fun r h2 N2 hq => ?_)
      obtain ⟨hr, e1, e2⟩ := hq
      cases hr
      rw [e1, e2]
      clear e1 e2
      show q_Ev l G m_tr_makeNode 1 21 0 0 68 [some (.ref (t)), some (.ref (a)), some (.int (nI (p))), some (.int (nI ((p - 1) / 6)))] [.int (nI (6 * ((p - 1) / 6) + 0 + 1)), .int (nI (p)), .int (nI ((p - 1) / 6)), .ref (t + 4)] (tr_put h (t) (upd (dt) (p) ((d))) (upd (vr) (p) ((nI (0)))) (upd (ow) (p) ((o))) (upd (nx) (p) ((nI (0))))) N _
      refine e_isubN (pc := 68) d_tr_makeNode_68 (by omega) ?_
      refine e_iconst (pc := 69) d_tr_makeNode_69 (v := (nI (1))) rfl ?_
      refine e_iaddN (pc := 70) d_tr_makeNode_70  ?_
      refine e_iastN (pc := 71) d_tr_makeNode_71 tr_g4 (by omega) (by decide) ?_
      rw [tr_u4]
      exact e_vret (pc := 72) d_tr_makeNode_72 rfl (⟨rfl, by simp [mkN, c2, c], rfl⟩)
set_option maxHeartbeats 4000000 in
set_option maxRecDepth 100000 in
theorem c_tr_play_create {l : Launch} {G : q_G} (htr : l.stackTraces = false) {h : q_H} {N : Nat} {t : Nat} {dt vr ow nx : Nat → Int32} (hT : tr_At h t dt vr ow nx) {a p : Nat} {d o : Int32} {sq : Bool} (he : en_At h a 0 p d o sq) (hat : a < t + 1 ∨ t + 4 < a) (h1 : 1 ≤ p) (h2 : p < 259) : q_Met l G m_tr_play 2 44 0 0 [.ref (t), .ref (a)] h N (q_To none (tr_put h t (upd dt p d) (upd vr p (nI 0)) (upd ow p o) (mkN nx p sq)) N) := by
  refine q_Met.mk htr (by decide +kernel) rfl (List.forall_mem_cons.mpr ⟨rfl, List.forall_mem_cons.mpr ⟨rfl, fun _ h => nomatch h⟩⟩) (Nat.le_of_ble_eq_true rfl) ?_
  refine e_aload_n (pc := 0) d_tr_play_0 rfl ?_
  refine e_get (pc := 1) d_tr_play_1 fl_tr_30 he rfl ?_
  refine e_tableIn (pc := 4) (off := 28) (tgt := 32) d_tr_play_4 (by decide) (by decide) (by decide) (by decide) ?_
  refine e_aload_n (pc := 32) d_tr_play_32 rfl ?_
  refine e_aload_n (pc := 33) d_tr_play_33 rfl ?_
  refine e_callV (As := [.ref (a)]) (st := []) (cc2 := 0) (ss2 := 0) (pc := 34) d_tr_play_34 rfl cv_tr_36 hT.1 rfl (c_tr_makeNode htr hT he hat h1 h2) rfl (by decide) (by decide) (by omega) (by omega) (Nat.le_of_ble_eq_true rfl) (fun _ _ _ hq => nomatch hq.1) (fun r h2 N2 hq => ?_)
  obtain ⟨hr, e1, e2⟩ := hq
  cases hr
  rw [e1, e2]
  clear e1 e2
  show q_Ev l G m_tr_play 2 44 0 0 37 [some (.ref (t)), some (.ref (a))] [] _ N _
  refine e_goto (pc := 37) (tgt := 88) d_tr_play_37 (by decide) ?_
  exact e_vret (pc := 88) d_tr_play_88 rfl (⟨rfl, rfl, rfl⟩)
set_option maxHeartbeats 4000000 in
set_option maxRecDepth 100000 in
theorem c_tr_play_set {l : Launch} {G : q_G} (htr : l.stackTraces = false) {h : q_H} {N : Nat} {t : Nat} {dt vr ow nx : Nat → Int32} (hT : tr_At h t dt vr ow nx) {a p : Nat} {d o : Int32} {sq : Bool} (he : en_At h a 1 p d o sq) (hat : a < t + 1 ∨ t + 4 < a) (h2 : p < 259) : q_Met l G m_tr_play 2 44 0 0 [.ref (t), .ref (a)] h N (q_To none (tr_put h t (upd dt p d) (upd vr p (vr p + nI 1)) ow nx) N) := by
  refine q_Met.mk htr (by decide +kernel) rfl (List.forall_mem_cons.mpr ⟨rfl, List.forall_mem_cons.mpr ⟨rfl, fun _ h => nomatch h⟩⟩) (Nat.le_of_ble_eq_true rfl) ?_
  refine e_aload_n (pc := 0) d_tr_play_0 rfl ?_
  refine e_get (pc := 1) d_tr_play_1 fl_tr_30 he rfl ?_
  refine e_tableIn (pc := 4) (off := 36) (tgt := 40) d_tr_play_4 (by decide) (by decide) (by decide) (by decide) ?_
  refine q_Ev.hp (tr_put_id hT) ?_
  refine e_aload_n (pc := 40) d_tr_play_40 rfl ?_
  refine e_get (pc := 41) d_tr_play_41 fl_tr_9 ((tr_gx (by omega)).trans hT.1) rfl ?_
  refine e_aload_n (pc := 44) d_tr_play_44 rfl ?_
  refine e_get (pc := 45) d_tr_play_45 fl_tr_40 ((tr_gx hat).trans he) rfl ?_
  refine e_aload_n (pc := 48) d_tr_play_48 rfl ?_
  refine e_get (pc := 49) d_tr_play_49 fl_tr_43 ((tr_gx hat).trans he) rfl ?_
  refine e_iastN (pc := 52) d_tr_play_52 tr_g1 (by omega) (by decide) ?_
  rw [tr_u1]
  refine e_aload_n (pc := 53) d_tr_play_53 rfl ?_
  refine e_get (pc := 54) d_tr_play_54 fl_tr_15 ((tr_gx (by omega)).trans hT.1) rfl ?_
  refine e_aload_n (pc := 57) d_tr_play_57 rfl ?_
  refine e_get (pc := 58) d_tr_play_58 fl_tr_40 ((tr_gx hat).trans he) rfl ?_
  refine e_dup2 (pc := 61) d_tr_play_61 rfl rfl ?_
  refine e_ialdN (pc := 62) d_tr_play_62 tr_g2 (by omega) (by decide) ?_
  refine e_iconst (pc := 63) d_tr_play_63 (v := (nI (1))) rfl ?_
  refine e_iadd (pc := 64) d_tr_play_64  ?_
  refine e_iastN (pc := 65) d_tr_play_65 tr_g2 (by omega) (by decide) ?_
  rw [tr_u2]
  refine e_goto (pc := 66) (tgt := 88) d_tr_play_66 (by decide) ?_
  exact e_vret (pc := 88) d_tr_play_88 rfl (⟨rfl, rfl, rfl⟩)
set_option maxHeartbeats 4000000 in
set_option maxRecDepth 100000 in
theorem c_tr_play_delete {l : Launch} {G : q_G} (htr : l.stackTraces = false) {h : q_H} {N : Nat} {t : Nat} {dt vr ow nx : Nat → Int32} (hT : tr_At h t dt vr ow nx) {a p : Nat} {d o : Int32} {sq : Bool} (he : en_At h a 2 p d o sq) (hat : a < t + 1 ∨ t + 4 < a) (h2 : p < 259) : q_Met l G m_tr_play 2 44 0 0 [.ref (t), .ref (a)] h N (q_To none (tr_put h t dt (upd vr p (-1)) (upd ow p (-1)) nx) N) := by
  refine q_Met.mk htr (by decide +kernel) rfl (List.forall_mem_cons.mpr ⟨rfl, List.forall_mem_cons.mpr ⟨rfl, fun _ h => nomatch h⟩⟩) (Nat.le_of_ble_eq_true rfl) ?_
  refine e_aload_n (pc := 0) d_tr_play_0 rfl ?_
  refine e_get (pc := 1) d_tr_play_1 fl_tr_30 he rfl ?_
  refine e_tableIn (pc := 4) (off := 65) (tgt := 69) d_tr_play_4 (by decide) (by decide) (by decide) (by decide) ?_
  refine e_aload_n (pc := 69) d_tr_play_69 rfl ?_
  refine e_aload_n (pc := 70) d_tr_play_70 rfl ?_
  refine e_get (pc := 71) d_tr_play_71 fl_tr_40 he rfl ?_
  refine e_callV (As := [.int (nI (p))]) (st := []) (cc2 := 0) (ss2 := 0) (pc := 74) d_tr_play_74 rfl cv_tr_45 hT.1 rfl (c_tr_dropNode htr hT h2) rfl (by decide) (by decide) (by omega) (by omega) (Nat.le_of_ble_eq_true rfl) (fun _ _ _ hq => nomatch hq.1) (fun r h2 N2 hq => ?_)
  obtain ⟨hr, e1, e2⟩ := hq
  cases hr
  rw [e1, e2]
  clear e1 e2
  show q_Ev l G m_tr_play 2 44 0 0 77 [some (.ref (t)), some (.ref (a))] [] _ N _
  refine e_goto (pc := 77) (tgt := 88) d_tr_play_77 (by decide) ?_
  exact e_vret (pc := 88) d_tr_play_88 rfl (⟨rfl, by rw [← tr_u3, ← tr_u2, tr_put_id hT], rfl⟩)
set_option maxHeartbeats 4000000 in
set_option maxRecDepth 100000 in
theorem c_tr_play_close {l : Launch} {G : q_G} (htr : l.stackTraces = false) {h : q_H} {N : Nat} {t : Nat} {dt vr ow nx : Nat → Int32} (hT : tr_At h t dt vr ow nx) {a p : Nat} {d o : Int32} {sq : Bool} (he : en_At h a 3 p d o sq) (hat : a < t + 1 ∨ t + 4 < a) : q_Met l G m_tr_play 2 44 0 0 [.ref (t), .ref (a)] h N (q_To none (tr_put h t dt (owdK vr ow o 259) (owdK ow ow o 259) nx) N) := by
  refine q_Met.mk htr (by decide +kernel) rfl (List.forall_mem_cons.mpr ⟨rfl, List.forall_mem_cons.mpr ⟨rfl, fun _ h => nomatch h⟩⟩) (Nat.le_of_ble_eq_true rfl) ?_
  refine e_aload_n (pc := 0) d_tr_play_0 rfl ?_
  refine e_get (pc := 1) d_tr_play_1 fl_tr_30 he rfl ?_
  refine e_tableOut (pc := 4) (tgt := 80) d_tr_play_4 (Or.inr (by decide)) (by decide) ?_
  refine e_aload_n (pc := 80) d_tr_play_80 rfl ?_
  refine e_aload_n (pc := 81) d_tr_play_81 rfl ?_
  refine e_get (pc := 82) d_tr_play_82 fl_tr_49 he rfl ?_
  refine e_callV (As := [.int (o)]) (st := []) (cc2 := 0) (ss2 := 0) (pc := 85) d_tr_play_85 rfl cv_tr_51 hT.1 rfl (c_tr_dropOwned htr hT) rfl (by decide) (by decide) (by omega) (by omega) (Nat.le_of_ble_eq_true rfl) (fun _ _ _ hq => nomatch hq.1) (fun r h2 N2 hq => ?_)
  obtain ⟨hr, e1, e2⟩ := hq
  cases hr
  rw [e1, e2]
  clear e1 e2
  show q_Ev l G m_tr_play 2 44 0 0 88 [some (.ref (t)), some (.ref (a))] [] _ N _
  exact e_vret (pc := 88) d_tr_play_88 rfl (⟨rfl, rfl, rfl⟩)
set_option maxHeartbeats 4000000 in
set_option maxRecDepth 100000 in
theorem c_tr_clear {l : Launch} {G : q_G} (htr : l.stackTraces = false) {h : q_H} {N : Nat} {t : Nat} {dt vr ow nx : Nat → Int32} (hT : tr_At h t dt vr ow nx) : q_Met l G m_tr_clear 1 23 0 0 [.ref (t)] h N (q_To none (tr_put h t (fillN dt 259 (nI 0)) (upd (fillN vr 259 (-1)) 0 (nI 0)) (fillN ow 259 (-1)) (fillN nx 43 (nI 0))) N) := by
  refine q_Met.mk htr (by decide +kernel) rfl (List.forall_mem_cons.mpr ⟨rfl, fun _ h => nomatch h⟩) (Nat.le_of_ble_eq_true rfl) ?_
  refine q_Ev.hp (tr_put_id hT) ?_
  refine e_aload_n (pc := 0) d_tr_clear_0 rfl ?_
  refine e_get (pc := 1) d_tr_clear_1 fl_tr_9 ((tr_gx (by omega)).trans hT.1) rfl ?_
  refine e_iconst (pc := 4) d_tr_clear_4 (v := (nI (0))) rfl ?_
  refine e_callS (As := [.ref (t + 1), .int (nI (0))]) (st := []) (cc2 := 0) (ss2 := 0) (pc := 5) d_tr_clear_5 rfl cs_tr_24 (c_ar_fill htr (v := nI 0) (by decide) tr_g1) rfl (by decide) (by decide) (by omega) (by omega) (Nat.le_of_ble_eq_true rfl) (fun _ _ _ hq => nomatch hq.1) (fun r h2 N2 hq => ?_)
  obtain ⟨hr, e1, e2⟩ := hq
  cases hr
  rw [e1, e2]
  clear e1 e2
  show q_Ev l G m_tr_clear 1 23 0 0 8 [some (.ref (t))] [] _ N _
  rw [tr_u1]
  refine e_aload_n (pc := 8) d_tr_clear_8 rfl ?_
  refine e_get (pc := 9) d_tr_clear_9 fl_tr_15 ((tr_gx (by omega)).trans hT.1) rfl ?_
  refine e_iconst (pc := 12) d_tr_clear_12 (v := (-1)) rfl ?_
  refine e_callS (As := [.ref (t + 2), .int (-1)]) (st := []) (cc2 := 0) (ss2 := 0) (pc := 13) d_tr_clear_13 rfl cs_tr_24 (c_ar_fill htr (v := -1) (by decide) tr_g2) rfl (by decide) (by decide) (by omega) (by omega) (Nat.le_of_ble_eq_true rfl) (fun _ _ _ hq => nomatch hq.1) (fun r h2 N2 hq => ?_)
  obtain ⟨hr, e1, e2⟩ := hq
  cases hr
  rw [e1, e2]
  clear e1 e2
  show q_Ev l G m_tr_clear 1 23 0 0 16 [some (.ref (t))] [] _ N _
  rw [tr_u2]
  refine e_aload_n (pc := 16) d_tr_clear_16 rfl ?_
  refine e_get (pc := 17) d_tr_clear_17 fl_tr_18 ((tr_gx (by omega)).trans hT.1) rfl ?_
  refine e_iconst (pc := 20) d_tr_clear_20 (v := (-1)) rfl ?_
  refine e_callS (As := [.ref (t + 3), .int (-1)]) (st := []) (cc2 := 0) (ss2 := 0) (pc := 21) d_tr_clear_21 rfl cs_tr_24 (c_ar_fill htr (v := -1) (by decide) tr_g3) rfl (by decide) (by decide) (by omega) (by omega) (Nat.le_of_ble_eq_true rfl) (fun _ _ _ hq => nomatch hq.1) (fun r h2 N2 hq => ?_)
  obtain ⟨hr, e1, e2⟩ := hq
  cases hr
  rw [e1, e2]
  clear e1 e2
  show q_Ev l G m_tr_clear 1 23 0 0 24 [some (.ref (t))] [] _ N _
  rw [tr_u3]
  refine e_aload_n (pc := 24) d_tr_clear_24 rfl ?_
  refine e_get (pc := 25) d_tr_clear_25 fl_tr_21 ((tr_gx (by omega)).trans hT.1) rfl ?_
  refine e_iconst (pc := 28) d_tr_clear_28 (v := (nI (0))) rfl ?_
  refine e_callS (As := [.ref (t + 4), .int (nI (0))]) (st := []) (cc2 := 0) (ss2 := 0) (pc := 29) d_tr_clear_29 rfl cs_tr_24 (c_ar_fill htr (v := nI 0) (by decide) tr_g4) rfl (by decide) (by decide) (by omega) (by omega) (Nat.le_of_ble_eq_true rfl) (fun _ _ _ hq => nomatch hq.1) (fun r h2 N2 hq => ?_)
  obtain ⟨hr, e1, e2⟩ := hq
  cases hr
  rw [e1, e2]
  clear e1 e2
  show q_Ev l G m_tr_clear 1 23 0 0 32 [some (.ref (t))] [] _ N _
  rw [tr_u4]
  refine e_aload_n (pc := 32) d_tr_clear_32 rfl ?_
  refine e_get (pc := 33) d_tr_clear_33 fl_tr_15 ((tr_gx (by omega)).trans hT.1) rfl ?_
  refine e_iconst (pc := 36) d_tr_clear_36 (v := (nI (0))) rfl ?_
  refine e_iconst (pc := 37) d_tr_clear_37 (v := (nI (0))) rfl ?_
  refine e_iastN (pc := 38) d_tr_clear_38 tr_g2 (by omega) (by decide) ?_
  rw [tr_u2]
  exact e_vret (pc := 39) d_tr_clear_39 rfl (⟨rfl, rfl, rfl⟩)

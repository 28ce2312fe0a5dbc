/-! SESSION.hear, takeEvent; ENTRY's constructor -/
theorem hrK_1 (ow : Nat → Int32) (o : Int32) (X : wS) : hrK ow o 1 X = X := by
  unfold hrK
  rw [if_neg (fun z => absurd z.1 (by decide))]
  rfl
set_option maxHeartbeats 4000000 in
set_option maxRecDepth 100000 in
theorem c_ss_hear_create {l : Launch} {G : q_G} (htr : l.stackTraces = false) {h : q_H} {N : Nat} {s : Nat} {X : wS} {op du : Bool} {sv : Nat} {to he : Int32} (hS : ss_At h s X.1 X.2.1 X.2.2 op du sv to he) (h8 : X.2.2 ≤ 8) {t : Nat} {a p : Nat} {d o : Int32} {sq : Bool} (he9 : en_At h a 0 p d o sq) (h2 : p < 259) (h1 : 1 ≤ p) : q_Met l G m_ss_hear 2 45 0 0 [.ref (s), .ref (a), .ref (t)] h N (q_To none (ss_put h s (toS 1 p X).1 (toS 1 p X).2.1 (toS 1 p X).2.2 op du sv to he) N) := by
  refine q_Met.mk htr (by decide +kernel) rfl (List.forall_mem_cons.mpr ⟨rfl, List.forall_mem_cons.mpr ⟨rfl, List.forall_mem_cons.mpr ⟨rfl, fun _ h => nomatch h⟩⟩⟩) (Nat.le_of_ble_eq_true rfl) ?_
  refine e_aload_n (pc := 0) d_ss_hear_0 rfl ?_
  refine e_get (pc := 1) d_ss_hear_1 fl_ss_47 he9 rfl ?_
  refine e_tableIn (pc := 4) (off := 28) (tgt := 32) d_ss_hear_4 (by decide) (by decide) (by decide) (by decide) ?_
  refine e_aload_n (pc := 32) d_ss_hear_32 rfl ?_
  refine e_aload_n (pc := 33) d_ss_hear_33 rfl ?_
  refine e_get (pc := 34) d_ss_hear_34 fl_ss_52 he9 rfl ?_
  refine e_iconst (pc := 37) d_ss_hear_37 (v := (nI (1))) rfl ?_
  refine e_callV (As := [.int (nI (p)), .int (nI (1))]) (st := []) (cc2 := 0) (ss2 := 0) (pc := 38) d_ss_hear_38 rfl cv_ss_55 hS.1 rfl (c_ss_tellOf_1 htr hS h8 h2 h1) rfl (by decide) (by decide) (by omega) (by omega) (Nat.le_of_ble_eq_true rfl) (fun _ _ _ hq => nomatch hq.1) (fun r h2 N2 hq => ?_)
  obtain ⟨hr, e1, e2⟩ := hq
  cases hr
  rw [e1, e2]
  clear e1 e2
  show q_Ev l G m_ss_hear 2 45 0 0 41 [some (.ref (s)), some (.ref (a)), some (.ref (t)), none] [] _ N _
  refine e_goto (pc := 41) (tgt := 102) d_ss_hear_41 (by decide) ?_
  exact e_vret (pc := 102) d_ss_hear_102 rfl (⟨rfl, rfl, rfl⟩)
set_option maxHeartbeats 4000000 in
set_option maxRecDepth 100000 in
theorem c_ss_hear_set {l : Launch} {G : q_G} (htr : l.stackTraces = false) {h : q_H} {N : Nat} {s : Nat} {X : wS} {op du : Bool} {sv : Nat} {to he : Int32} (hS : ss_At h s X.1 X.2.1 X.2.2 op du sv to he) (h8 : X.2.2 ≤ 8) {t : Nat} {a p : Nat} {d o : Int32} {sq : Bool} (he9 : en_At h a 1 p d o sq) (h2 : p < 259) : q_Met l G m_ss_hear 2 45 0 0 [.ref (s), .ref (a), .ref (t)] h N (q_To none (ss_put h s (toS 2 p X).1 (toS 2 p X).2.1 (toS 2 p X).2.2 op du sv to he) N) := by
  refine q_Met.mk htr (by decide +kernel) rfl (List.forall_mem_cons.mpr ⟨rfl, List.forall_mem_cons.mpr ⟨rfl, List.forall_mem_cons.mpr ⟨rfl, fun _ h => nomatch h⟩⟩⟩) (Nat.le_of_ble_eq_true rfl) ?_
  refine e_aload_n (pc := 0) d_ss_hear_0 rfl ?_
  refine e_get (pc := 1) d_ss_hear_1 fl_ss_47 he9 rfl ?_
  refine e_tableIn (pc := 4) (off := 40) (tgt := 44) d_ss_hear_4 (by decide) (by decide) (by decide) (by decide) ?_
  refine e_aload_n (pc := 44) d_ss_hear_44 rfl ?_
  refine e_aload_n (pc := 45) d_ss_hear_45 rfl ?_
  refine e_get (pc := 46) d_ss_hear_46 fl_ss_52 he9 rfl ?_
  refine e_iconst (pc := 49) d_ss_hear_49 (v := (nI (2))) rfl ?_
  refine e_callV (As := [.int (nI (p)), .int (nI (2))]) (st := []) (cc2 := 0) (ss2 := 0) (pc := 50) d_ss_hear_50 rfl cv_ss_55 hS.1 rfl (c_ss_tellOf_2 htr hS h8 h2) rfl (by decide) (by decide) (by omega) (by omega) (Nat.le_of_ble_eq_true rfl) (fun _ _ _ hq => nomatch hq.1) (fun r h2 N2 hq => ?_)
  obtain ⟨hr, e1, e2⟩ := hq
  cases hr
  rw [e1, e2]
  clear e1 e2
  show q_Ev l G m_ss_hear 2 45 0 0 53 [some (.ref (s)), some (.ref (a)), some (.ref (t)), none] [] _ N _
  refine e_goto (pc := 53) (tgt := 102) d_ss_hear_53 (by decide) ?_
  exact e_vret (pc := 102) d_ss_hear_102 rfl (⟨rfl, rfl, rfl⟩)
set_option maxHeartbeats 4000000 in
set_option maxRecDepth 100000 in
theorem c_ss_hear_delete {l : Launch} {G : q_G} (htr : l.stackTraces = false) {h : q_H} {N : Nat} {s : Nat} {X : wS} {op du : Bool} {sv : Nat} {to he : Int32} (hS : ss_At h s X.1 X.2.1 X.2.2 op du sv to he) (h8 : X.2.2 ≤ 8) {t : Nat} {a p : Nat} {d o : Int32} {sq : Bool} (he9 : en_At h a 2 p d o sq) (h2 : p < 259) (h1 : 1 ≤ p) : q_Met l G m_ss_hear 2 45 0 0 [.ref (s), .ref (a), .ref (t)] h N (q_To none (ss_put h s (toS 3 p X).1 (toS 3 p X).2.1 (toS 3 p X).2.2 op du sv to he) N) := by
  refine q_Met.mk htr (by decide +kernel) rfl (List.forall_mem_cons.mpr ⟨rfl, List.forall_mem_cons.mpr ⟨rfl, List.forall_mem_cons.mpr ⟨rfl, fun _ h => nomatch h⟩⟩⟩) (Nat.le_of_ble_eq_true rfl) ?_
  refine e_aload_n (pc := 0) d_ss_hear_0 rfl ?_
  refine e_get (pc := 1) d_ss_hear_1 fl_ss_47 he9 rfl ?_
  refine e_tableIn (pc := 4) (off := 52) (tgt := 56) d_ss_hear_4 (by decide) (by decide) (by decide) (by decide) ?_
  refine e_aload_n (pc := 56) d_ss_hear_56 rfl ?_
  refine e_aload_n (pc := 57) d_ss_hear_57 rfl ?_
  refine e_get (pc := 58) d_ss_hear_58 fl_ss_52 he9 rfl ?_
  refine e_iconst (pc := 61) d_ss_hear_61 (v := (nI (3))) rfl ?_
  refine e_callV (As := [.int (nI (p)), .int (nI (3))]) (st := []) (cc2 := 0) (ss2 := 0) (pc := 62) d_ss_hear_62 rfl cv_ss_55 hS.1 rfl (c_ss_tellOf_3 htr hS h8 h2 h1) rfl (by decide) (by decide) (by omega) (by omega) (Nat.le_of_ble_eq_true rfl) (fun _ _ _ hq => nomatch hq.1) (fun r h2 N2 hq => ?_)
  obtain ⟨hr, e1, e2⟩ := hq
  cases hr
  rw [e1, e2]
  clear e1 e2
  show q_Ev l G m_ss_hear 2 45 0 0 65 [some (.ref (s)), some (.ref (a)), some (.ref (t)), none] [] _ N _
  refine e_goto (pc := 65) (tgt := 102) d_ss_hear_65 (by decide) ?_
  exact e_vret (pc := 102) d_ss_hear_102 rfl (⟨rfl, rfl, rfl⟩)
set_option maxHeartbeats 4000000 in
set_option maxRecDepth 100000 in
theorem lp_ss_hear {l : Launch} {G : q_G} (htr : l.stackTraces = false) {h : q_H} {N : Nat} {s : Nat} {X : wS} {op du : Bool} {sv : Nat} {to he : Int32} (hS : ss_At h s X.1 X.2.1 X.2.2 op du sv to he) (h8 : X.2.2 ≤ 8) {t : Nat} {dt vr ow nx : Nat → Int32} (hT : tr_At h t dt vr ow nx) {a p : Nat} {d o : Int32} {sq : Bool} (he9 : en_At h a 3 p d o sq) (ha : a < s ∨ s + 2 < a) (ht : t + 4 < s ∨ s + 2 < t) : ∀ (g k : Nat), 259 < k + g → 1 ≤ k ∧ k ≤ 259 → q_Ev l G m_ss_hear 2 45 0 0 70 [some (.ref (s)), some (.ref (a)), some (.ref (t)), some (.int (nI (k)))] [] (ss_put h s (hrK ow o k X).1 (hrK ow o k X).2.1 (hrK ow o k X).2.2 op du sv to he) N (q_To none (ss_put h s (hrK ow o 259 X).1 (hrK ow o 259 X).2.1 (hrK ow o 259 X).2.2 op du sv to he) N) := by
  intro g
  induction g with
  | zero => intro k hg hk; omega
  | succ g ih =>
    intro k hg hk
    have h8y := hrK_8 (ow := ow) (o := o) h8 k
    have hSy : ss_At (ss_put h s (hrK ow o k X).1 (hrK ow o k X).2.1 (hrK ow o k X).2.2 op du sv to he) s (hrK ow o k X).1 (hrK ow o k X).2.1 (hrK ow o k X).2.2 op du sv to he := ss_put_at
    refine e_iload_n (pc := 70) d_ss_hear_70 rfl ?_
    refine e_sipush (pc := 71) d_ss_hear_71 (v := (nI (259))) rfl ?_
    refine e_icmp_geN (pc := 74) (tgt := 102) d_ss_hear_74 (by decide) (by omega) (by omega) (fun c => ?_) (fun c => ?_)
    · have hkn : k = 259 := by omega
      subst hkn
      exact e_vret (pc := 102) d_ss_hear_102 rfl (⟨rfl, rfl, rfl⟩)
    · refine e_aload_n (pc := 77) d_ss_hear_77 rfl ?_
      refine e_get (pc := 78) d_ss_hear_78 fl_ss_59 ((ss_gx (by omega)).trans hT.1) rfl ?_
      refine e_iload_n (pc := 81) d_ss_hear_81 rfl ?_
      refine e_ialdN (pc := 82) d_ss_hear_82 ((ss_gx (by omega)).trans hT.2.2.2.1) (by omega) (by decide) ?_
      refine e_aload_n (pc := 83) d_ss_hear_83 rfl ?_
      refine e_get (pc := 84) d_ss_hear_84 fl_ss_64 ((ss_gx ha).trans he9) rfl ?_
      refine e_icmp_ne (pc := 87) (tgt := 96) d_ss_hear_87 (by decide) (fun c2 => ?_) (fun c2 => ?_)
      · refine e_iincN (pc := 96) d_ss_hear_96 (a := k) (b := 1) rfl rfl (by decide) ?_
        refine e_goto (pc := 99) (tgt := 70) d_ss_hear_99 (by decide) ?_
        have e : hrK ow o (k + 1) X = hrK ow o k X := by rw [hrK, if_neg (fun z => c2 z.2)]
        have := ih (k + 1) (by omega) (by omega)
        rw [e] at this
        exact this
      · refine e_aload_n (pc := 90) d_ss_hear_90 rfl ?_
        refine e_iload_n (pc := 91) d_ss_hear_91 rfl ?_
        refine e_iconst (pc := 92) d_ss_hear_92 (v := (nI (3))) rfl ?_
        refine e_callV (As := [.int (nI (k)), .int (nI (3))]) (st := []) (cc2 := 0) (ss2 := 0) (pc := 93) d_ss_hear_93 rfl cv_ss_55 hSy.1 rfl (c_ss_tellOf_3 htr hSy h8y c hk.1) rfl (by decide) (by decide) (by omega) (by omega) (Nat.le_of_ble_eq_true rfl) (fun _ _ _ hq => nomatch hq.1) (fun r h2 N2 hq => ?_)
        obtain ⟨hr, e1, e2⟩ := hq
        cases hr
        rw [e1, e2]
        clear e1 e2
        show q_Ev l G m_ss_hear 2 45 0 0 96 [some (.ref (s)), some (.ref (a)), some (.ref (t)), some (.int (nI (k)))] [] _ N _
        rw [ss_put_put]
        refine e_iincN (pc := 96) d_ss_hear_96 (a := k) (b := 1) rfl rfl (by decide) ?_
        refine e_goto (pc := 99) (tgt := 70) d_ss_hear_99 (by decide) ?_
        have e : hrK ow o (k + 1) X = toS 3 k (hrK ow o k X) := by rw [hrK, if_pos ⟨hk.1, c2⟩]
        have := ih (k + 1) (by omega) (by omega)
        rw [e] at this
        exact this
set_option maxHeartbeats 4000000 in
set_option maxRecDepth 100000 in
theorem c_ss_hear_close {l : Launch} {G : q_G} (htr : l.stackTraces = false) {h : q_H} {N : Nat} {s : Nat} {X : wS} {op du : Bool} {sv : Nat} {to he : Int32} (hS : ss_At h s X.1 X.2.1 X.2.2 op du sv to he) (h8 : X.2.2 ≤ 8) {t : Nat} {dt vr ow nx : Nat → Int32} (hT : tr_At h t dt vr ow nx) {a p : Nat} {d o : Int32} {sq : Bool} (he9 : en_At h a 3 p d o sq) (ha : a < s ∨ s + 2 < a) (ht : t + 4 < s ∨ s + 2 < t) : q_Met l G m_ss_hear 2 45 0 0 [.ref (s), .ref (a), .ref (t)] h N (q_To none (ss_put h s (hrK ow o 259 X).1 (hrK ow o 259 X).2.1 (hrK ow o 259 X).2.2 op du sv to he) N) := by
  refine q_Met.mk htr (by decide +kernel) rfl (List.forall_mem_cons.mpr ⟨rfl, List.forall_mem_cons.mpr ⟨rfl, List.forall_mem_cons.mpr ⟨rfl, fun _ h => nomatch h⟩⟩⟩) (Nat.le_of_ble_eq_true rfl) ?_
  refine e_aload_n (pc := 0) d_ss_hear_0 rfl ?_
  refine e_get (pc := 1) d_ss_hear_1 fl_ss_47 he9 rfl ?_
  refine e_tableOut (pc := 4) (tgt := 68) d_ss_hear_4 (Or.inr (by decide)) (by decide) ?_
  refine e_iconst (pc := 68) d_ss_hear_68 (v := (nI (1))) rfl ?_
  refine e_istore_n (pc := 69) d_ss_hear_69 (by decide) ?_
  have := lp_ss_hear (l := l) (G := G) htr (N := N) hS h8 hT he9 ha ht 260 1 (by omega) (by omega)
  rw [hrK_1, ss_put_id hS] at this
  exact this
set_option maxHeartbeats 4000000 in
set_option maxRecDepth 100000 in
theorem lp_ss_takeEvent {l : Launch} {G : q_G} {h : q_H} {N s : Nat} {w ev : Nat → Int32} {cn : Nat} {op du : Bool} {sv : Nat} {to he : Int32} (h1 : 1 ≤ cn) (h8 : cn ≤ 8) : ∀ (g k : Nat), cn < k + g → 1 ≤ k ∧ k ≤ cn → q_Ev l G m_ss_takeEvent 0 0 0 0 9 [some (.ref (s)), some (.int (ev 0)), some (.int (nI (k)))] [] ((ss_put h (s) (w) (shK ev k) (cn) (op) (du) (sv) (to) (he))) N (q_To (some (.int (ev 0))) (ss_put h s w (shK ev cn) (cn - 1) op du sv to he) N) := by
  intro g
  induction g with
  | zero => intro k hg hk; omega
  | succ g ih =>
    intro k hg hk
    refine e_iload_n (pc := 9) d_ss_takeEvent_9 rfl ?_
    refine e_aload_n (pc := 10) d_ss_takeEvent_10 rfl ?_
    refine e_get (pc := 11) d_ss_takeEvent_11 fl_ss_18 ss_g0 rfl ?_
    refine e_icmp_geN (pc := 14) (tgt := 37) d_ss_takeEvent_14 (by decide) (by omega) (by omega) (fun c => ?_) (fun c => ?_)
    · have hkn : cn = k := by omega
      subst hkn
      refine e_aload_n (pc := 37) d_ss_takeEvent_37 rfl ?_
      refine e_dup (pc := 38) d_ss_takeEvent_38 rfl ?_
      refine e_get (pc := 39) d_ss_takeEvent_39 fl_ss_18 ss_g0 rfl ?_
      refine e_iconst (pc := 42) d_ss_takeEvent_42 (v := (nI (1))) rfl ?_
      refine e_isubN (pc := 43) d_ss_takeEvent_43 (by omega) ?_
      refine e_putE (pc := 44) d_ss_takeEvent_44 (fs2 := [.ref (s + 1), .ref (s + 2), .int (nI ((cn) - (1))), .int (bI (op)), .int (bI (du)), .int (nI (sv)), .int (to), .int (he)]) fl_ss_18 ss_g0 (Nat.le_of_ble_eq_true rfl) (fun _ => rfl) (fun _ => rfl) rfl ?_
      rw [ss_u0]
      refine e_iload_n (pc := 47) d_ss_takeEvent_47 rfl ?_
      exact e_iret (pc := 48) d_ss_takeEvent_48 rfl (⟨rfl, rfl, rfl⟩)
    · refine e_aload_n (pc := 17) d_ss_takeEvent_17 rfl ?_
      refine e_get (pc := 18) d_ss_takeEvent_18 fl_ss_15 ss_g0 rfl ?_
      refine e_iload_n (pc := 21) d_ss_takeEvent_21 rfl ?_
      refine e_iconst (pc := 22) d_ss_takeEvent_22 (v := (nI (1))) rfl ?_
      refine e_isubN (pc := 23) d_ss_takeEvent_23 (by omega) ?_
      refine e_aload_n (pc := 24) d_ss_takeEvent_24 rfl ?_
      refine e_get (pc := 25) d_ss_takeEvent_25 fl_ss_15 ss_g0 rfl ?_
      refine e_iload_n (pc := 28) d_ss_takeEvent_28 rfl ?_
      refine e_ialdN (pc := 29) d_ss_takeEvent_29 ss_g2 (by omega) (by decide) ?_
      rw [shK_at]
      refine e_iastN (pc := 30) d_ss_takeEvent_30 ss_g2 (by omega) (by decide) ?_
      rw [ss_u2]
      rw [shK_s hk.1]
      refine e_iincN (pc := 31) d_ss_takeEvent_31 (a := k) (b := 1) rfl rfl (by decide) ?_
      refine e_goto (pc := 34) (tgt := 9) d_ss_takeEvent_34 (by decide) ?_
      exact ih (k + 1) (by omega) (by omega)
set_option maxHeartbeats 4000000 in
set_option maxRecDepth 100000 in
theorem c_ss_takeEvent {l : Launch} {G : q_G} (htr : l.stackTraces = false) {h : q_H} {N : Nat} {s : Nat} {w ev : Nat → Int32} {cn : Nat} {op du : Bool} {sv : Nat} {to he : Int32} (hS : ss_At h s w ev cn op du sv to he) (h1 : 1 ≤ cn) (h8 : cn ≤ 8) : q_Met l G m_ss_takeEvent 0 0 0 0 [.ref (s)] h N (q_To (some (.int (ev 0))) (ss_put h s w (shK ev cn) (cn - 1) op du sv to he) N) := by
  refine q_Met.mk htr (by decide +kernel) rfl (List.forall_mem_cons.mpr ⟨rfl, fun _ h => nomatch h⟩) (Nat.le_of_ble_eq_true rfl) ?_
  refine e_aload_n (pc := 0) d_ss_takeEvent_0 rfl ?_
  refine e_get (pc := 1) d_ss_takeEvent_1 fl_ss_15 hS.1 rfl ?_
  refine e_iconst (pc := 4) d_ss_takeEvent_4 (v := (nI (0))) rfl ?_
  refine e_ialdN (pc := 5) d_ss_takeEvent_5 hS.2.2 (by omega) (by decide) ?_
  refine e_istore_n (pc := 6) d_ss_takeEvent_6 (by decide) ?_
  refine e_iconst (pc := 7) d_ss_takeEvent_7 (v := (nI (1))) rfl ?_
  refine e_istore_n (pc := 8) d_ss_takeEvent_8 (by decide) ?_
  have := lp_ss_takeEvent (l := l) (G := G) (h := h) (N := N) (s := s) (w := w) (ev := ev) (op := op) (du := du) (sv := sv) (to := to) (he := he) h1 h8 (cn + 1) 1 (by omega) (by omega)
  rw [shK_1, ss_put_id hS] at this
  exact this
set_option maxHeartbeats 4000000 in
set_option maxRecDepth 100000 in
theorem c_en_init {l : Launch} {G : q_G} (htr : l.stackTraces = false) {h : q_H} {N : Nat} {a kd p : Nat} {d o : Int32} {sq : Bool} (ha : h a = some (.inr (0, [.int 0, .int 0, .int 0, .int 0, .int 0]))) : q_Met l G m_en_init 1 14 0 0 [.ref (a), .int (nI (kd)), .int (nI (p)), .int (d), .int (o), .int (bI (sq))] h N (q_To none (q_up h a (.inr (0, [.int (nI kd), .int (nI p), .int d, .int o, .int (bI sq)]))) N) := by
  refine q_Met.mk htr (by decide +kernel) rfl (List.forall_mem_cons.mpr ⟨rfl, List.forall_mem_cons.mpr ⟨rfl, List.forall_mem_cons.mpr ⟨rfl, List.forall_mem_cons.mpr ⟨rfl, List.forall_mem_cons.mpr ⟨rfl, List.forall_mem_cons.mpr ⟨rfl, fun _ h => nomatch h⟩⟩⟩⟩⟩⟩) (Nat.le_of_ble_eq_true rfl) ?_
  refine e_aload_n (pc := 0) d_en_init_0 rfl ?_
  refine e_objInit (pc := 1) d_en_init_1 k_300 k_22 k_23 (by decide) (Nat.le_of_ble_eq_true rfl) ?_
  refine e_aload_n (pc := 4) d_en_init_4 rfl ?_
  refine e_iload_n (pc := 5) d_en_init_5 rfl ?_
  refine e_putFE (pc := 6) d_en_init_6 (fs2 := [.int (nI (kd)), .int (0), .int (0), .int (0), .int (0)]) fl_en_7 rfl rfl ha (Nat.le_of_ble_eq_true rfl) (fun _ => rfl) (fun _ => rfl) rfl ?_
  obtain ⟨h1, eh2⟩ : ∃ x, x = q_up h (a) (.inr (0, [.int (nI (kd)), .int (0), .int (0), .int (0), .int (0)])) := ⟨_, rfl⟩
  rw [← eh2]
  have hc3 : h1 (a) = some (.inr (0, [.int (nI (kd)), .int (0), .int (0), .int (0), .int (0)])) := by rw [eh2]; exact q_up_s _ _ _
  refine e_aload_n (pc := 9) d_en_init_9 rfl ?_
  refine e_iload_n (pc := 10) d_en_init_10 rfl ?_
  refine e_putFE (pc := 11) d_en_init_11 (fs2 := [.int (nI (kd)), .int (nI (p)), .int (0), .int (0), .int (0)]) fl_en_13 rfl rfl hc3 (Nat.le_of_ble_eq_true rfl) (fun _ => rfl) (fun _ => rfl) rfl ?_
  obtain ⟨h4, eh5⟩ : ∃ x, x = q_up h1 (a) (.inr (0, [.int (nI (kd)), .int (nI (p)), .int (0), .int (0), .int (0)])) := ⟨_, rfl⟩
  rw [← eh5]
  have hc6 : h4 (a) = some (.inr (0, [.int (nI (kd)), .int (nI (p)), .int (0), .int (0), .int (0)])) := by rw [eh5]; exact q_up_s _ _ _
  refine e_aload_n (pc := 14) d_en_init_14 rfl ?_
  refine e_iload_n (pc := 15) d_en_init_15 rfl ?_
  refine e_putFE (pc := 16) d_en_init_16 (fs2 := [.int (nI (kd)), .int (nI (p)), .int (d), .int (0), .int (0)]) fl_en_16 rfl rfl hc6 (Nat.le_of_ble_eq_true rfl) (fun _ => rfl) (fun _ => rfl) rfl ?_
  obtain ⟨h7, eh8⟩ : ∃ x, x = q_up h4 (a) (.inr (0, [.int (nI (kd)), .int (nI (p)), .int (d), .int (0), .int (0)])) := ⟨_, rfl⟩
  rw [← eh8]
  have hc9 : h7 (a) = some (.inr (0, [.int (nI (kd)), .int (nI (p)), .int (d), .int (0), .int (0)])) := by rw [eh8]; exact q_up_s _ _ _
  refine e_aload_n (pc := 19) d_en_init_19 rfl ?_
  refine e_iload (pc := 20) d_en_init_20 rfl ?_
  refine e_putFE (pc := 22) d_en_init_22 (fs2 := [.int (nI (kd)), .int (nI (p)), .int (d), .int (o), .int (0)]) fl_en_19 rfl rfl hc9 (Nat.le_of_ble_eq_true rfl) (fun _ => rfl) (fun _ => rfl) rfl ?_
  obtain ⟨h10, eh11⟩ : ∃ x, x = q_up h7 (a) (.inr (0, [.int (nI (kd)), .int (nI (p)), .int (d), .int (o), .int (0)])) := ⟨_, rfl⟩
  rw [← eh11]
  have hc12 : h10 (a) = some (.inr (0, [.int (nI (kd)), .int (nI (p)), .int (d), .int (o), .int (0)])) := by rw [eh11]; exact q_up_s _ _ _
  refine e_aload_n (pc := 25) d_en_init_25 rfl ?_
  refine e_iload (pc := 26) d_en_init_26 rfl ?_
  refine e_putFE (pc := 28) d_en_init_28 (fs2 := [.int (nI (kd)), .int (nI (p)), .int (d), .int (o), .int (bI (sq))]) fl_en_22 rfl rfl hc12 (Nat.le_of_ble_eq_true rfl) (fun _ => bI_nar _) (fun _ => by first | rfl | (cases (sq : Bool) <;> rfl)) rfl ?_
  obtain ⟨h13, eh14⟩ : ∃ x, x = q_up h10 (a) (.inr (0, [.int (nI (kd)), .int (nI (p)), .int (d), .int (o), .int (bI (sq))])) := ⟨_, rfl⟩
  rw [← eh14]
  have hc15 : h13 (a) = some (.inr (0, [.int (nI (kd)), .int (nI (p)), .int (d), .int (o), .int (bI (sq))])) := by rw [eh14]; exact q_up_s _ _ _
  exact e_vret (pc := 31) d_en_init_31 rfl (⟨rfl, by subst_vars; simp only [q_up_up], rfl⟩)

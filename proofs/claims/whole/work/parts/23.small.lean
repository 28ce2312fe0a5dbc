/-! SERVER and SESSION: clusters, and their small methods -/
section PE
variable {l : Launch} {G : q_G} {μ : q_M} {fr lo cc ss pc N : Nat} {lv : List (Option Value)} {st : List Value} {h : q_H} {Q : q_Q}
theorem e_putE {a ci k idx : Nat} {fs fs2 : List Value} {ty : FieldType} {v : Value} (d : decode μ.2.1 pc = .ok (.putfield idx, 3)) (hf : q_F μ.1.cls idx ci k ty false) (ha : h a = some (.inr (ci, fs))) (hl0 : k < fs.length) (hn : ∀ G : q_G, narrow ty (q_v G v) = q_v G v) (hft : ∀ G : q_G, fits ty (q_v G v) = true) (hs : fs.set k v = fs2) (kk : q_Ev l G μ fr lo cc ss (pc + 3) lv st (q_up h a (.inr (ci, fs2))) N Q) : q_Ev l G μ fr lo cc ss pc lv (v :: .ref a :: st) h N Q := e_put d hf ha hl0 hn hft (hs ▸ kk)
theorem e_putFE {a ci k idx : Nat} {fs fs2 : List Value} {ty : FieldType} {v : Value} (d : decode μ.2.1 pc = .ok (.putfield idx, 3)) (hf : q_F μ.1.cls idx ci k ty true) (hin : μ.1.name = "<init>") (hcl : (q_cl[ci]?).map (fun r => r.1) = some μ.1.cls) (ha : h a = some (.inr (ci, fs))) (hl0 : k < fs.length) (hn : ∀ G : q_G, narrow ty (q_v G v) = q_v G v) (hft : ∀ G : q_G, fits ty (q_v G v) = true) (hs : fs.set k v = fs2) (kk : q_Ev l G μ fr lo cc ss (pc + 3) lv st (q_up h a (.inr (ci, fs2))) N Q) : q_Ev l G μ fr lo cc ss pc lv (v :: .ref a :: st) h N Q := e_putF d hf hin hcl ha hl0 hn hft (hs ▸ kk)
end PE
abbrev ss_ob (s cn : Nat) (op du : Bool) (sv : Nat) (to he : Int32) : q_E := .inr (2, [.ref (s + 1), .ref (s + 2), .int (nI cn), .int (bI op), .int (bI du), .int (nI sv), .int to, .int he])
def ss_At (h : q_H) (s : Nat) (w ev : Nat → Int32) (cn : Nat) (op du : Bool) (sv : Nat) (to he : Int32) : Prop := h s = some (ss_ob s cn op du sv to he) ∧ h (s + 1) = some (q_ai 259 w) ∧ h (s + 2) = some (q_ai 8 ev)
def ss_put (h : q_H) (s : Nat) (w ev : Nat → Int32) (cn : Nat) (op du : Bool) (sv : Nat) (to he : Int32) : q_H := fun j => if j = s then some (ss_ob s cn op du sv to he) else if j = s + 1 then some (q_ai 259 w) else if j = s + 2 then some (q_ai 8 ev) else h j
section SP
variable {h : q_H} {s : Nat} {w ev w' ev' : Nat → Int32} {cn cn' sv sv' : Nat} {op du op' du' : Bool} {to he to' he' : Int32}
theorem ss_put_id (hT : ss_At h s w ev cn op du sv to he) : ss_put h s w ev cn op du sv to he = h := by
  funext j
  unfold ss_put
  split
  · next c => subst c; exact hT.1.symm
  · split
    · next c => subst c; exact hT.2.1.symm
    · split
      · next c => subst c; exact hT.2.2.symm
      · rfl
theorem ss_g0 : ss_put h s w ev cn op du sv to he s = some (ss_ob s cn op du sv to he) := if_pos rfl
theorem ss_g1 : ss_put h s w ev cn op du sv to he (s + 1) = some (q_ai 259 w) := by unfold ss_put; rw [if_neg (by omega), if_pos rfl]
theorem ss_g2 : ss_put h s w ev cn op du sv to he (s + 2) = some (q_ai 8 ev) := by unfold ss_put; rw [if_neg (by omega), if_neg (by omega), if_pos rfl]
theorem ss_gx {x : Nat} (hx : x < s ∨ s + 2 < x) : ss_put h s w ev cn op du sv to he x = h x := by unfold ss_put; rw [if_neg (by omega), if_neg (by omega), if_neg (by omega)]
theorem ss_put_at : ss_At (ss_put h s w ev cn op du sv to he) s w ev cn op du sv to he := ⟨ss_g0, ss_g1, ss_g2⟩
theorem ss_u0 : q_up (ss_put h s w ev cn op du sv to he) s (ss_ob s cn' op' du' sv' to' he') = ss_put h s w ev cn' op' du' sv' to' he' := by
  funext j
  simp only [ss_put, q_up]
  (repeat' split) <;> first | rfl | (exfalso; omega)
theorem ss_u1 : q_up (ss_put h s w ev cn op du sv to he) (s + 1) (q_ai 259 w') = ss_put h s w' ev cn op du sv to he := by
  funext j
  simp only [ss_put, q_up]
  (repeat' split) <;> first | rfl | (exfalso; omega)
theorem ss_u2 : q_up (ss_put h s w ev cn op du sv to he) (s + 2) (q_ai 8 ev') = ss_put h s w ev' cn op du sv to he := by
  funext j
  simp only [ss_put, q_up]
  (repeat' split) <;> first | rfl | (exfalso; omega)
theorem ss_put_put : ss_put (ss_put h s w ev cn op du sv to he) s w' ev' cn' op' du' sv' to' he' = ss_put h s w' ev' cn' op' du' sv' to' he' := by
  funext j
  simp only [ss_put]
  (repeat' split) <;> first | rfl | (exfalso; omega)
end SP
abbrev sv_ob (s ln ap ag : Nat) (up al : Bool) : q_E := .inr (1, [.ref (s + 1), .ref (s + 2), .int (nI ln), .int (nI ap), .int (nI ag), .int (bI up), .int (bI al)])
def sv_At (h : q_H) (s : Nat) (lf : Nat → Option Nat) (ln ap ag : Nat) (up al : Bool) : Prop := h s = some (sv_ob s ln ap ag up al) ∧ h (s + 1) = some (q_ar 5 64 lf)
def sv_put (h : q_H) (s : Nat) (lf : Nat → Option Nat) (ln ap ag : Nat) (up al : Bool) : q_H := fun j => if j = s then some (sv_ob s ln ap ag up al) else if j = s + 1 then some (q_ar 5 64 lf) else h j
section VP
variable {h : q_H} {s : Nat} {lf lf' : Nat → Option Nat} {ln ap ag ln' ap' ag' : Nat} {up al up' al' : Bool}
theorem sv_put_id (hT : sv_At h s lf ln ap ag up al) : sv_put h s lf ln ap ag up al = h := by
  funext j
  unfold sv_put
  split
  · next c => subst c; exact hT.1.symm
  · split
    · next c => subst c; exact hT.2.symm
    · rfl
theorem sv_g0 : sv_put h s lf ln ap ag up al s = some (sv_ob s ln ap ag up al) := if_pos rfl
theorem sv_g1 : sv_put h s lf ln ap ag up al (s + 1) = some (q_ar 5 64 lf) := by unfold sv_put; rw [if_neg (by omega), if_pos rfl]
theorem sv_gx {x : Nat} (hx : x < s ∨ s + 1 < x) : sv_put h s lf ln ap ag up al x = h x := by unfold sv_put; rw [if_neg (by omega), if_neg (by omega)]
theorem sv_put_at : sv_At (sv_put h s lf ln ap ag up al) s lf ln ap ag up al := ⟨sv_g0, sv_g1⟩
theorem sv_u0 : q_up (sv_put h s lf ln ap ag up al) s (sv_ob s ln' ap' ag' up' al') = sv_put h s lf ln' ap' ag' up' al' := by
  funext j
  simp only [sv_put, q_up]
  (repeat' split) <;> first | rfl | (exfalso; omega)
theorem sv_u1 : q_up (sv_put h s lf ln ap ag up al) (s + 1) (q_ar 5 64 lf') = sv_put h s lf' ln ap ag up al := by
  funext j
  simp only [sv_put, q_up]
  (repeat' split) <;> first | rfl | (exfalso; omega)
theorem sv_put_put : sv_put (sv_put h s lf ln ap ag up al) s lf' ln' ap' ag' up' al' = sv_put h s lf' ln' ap' ag' up' al' := by
  funext j
  simp only [sv_put]
  (repeat' split) <;> first | rfl | (exfalso; omega)
end VP
set_option maxHeartbeats 4000000 in
set_option maxRecDepth 100000 in
theorem c_sv_isOnline {l : Launch} {G : q_G} (htr : l.stackTraces = false) {h : q_H} {N : Nat} {s : Nat} {lf : Nat → Option Nat} {ln ap ag : Nat} {up al : Bool} (hV : sv_At h s lf ln ap ag up al) : q_Met l G m_sv_isOnline 0 0 0 0 [.ref (s)] h N (q_Id (some (.int (bI (up && !al)))) h N) := by
  refine q_Met.mk htr (by decide +kernel) rfl (List.forall_mem_cons.mpr ⟨rfl, fun _ h => nomatch h⟩) (Nat.le_of_ble_eq_true rfl) ?_
  refine e_aload_n (pc := 0) d_sv_isOnline_0 rfl ?_
  refine e_get (pc := 1) d_sv_isOnline_1 fl_sv_34 hV.1 rfl ?_
  refine e_ifB_eq (pc := 4) (tgt := 18) d_sv_isOnline_4 (by decide) (fun c => ?_) (fun c => ?_)
  · refine e_iconst (pc := 18) d_sv_isOnline_18 (v := (bI (false))) rfl ?_
    exact e_retB (pc := 19) d_sv_isOnline_19 rfl (⟨by rw [c]; rfl, rfl, rfl⟩)
  · refine e_aload_n (pc := 7) d_sv_isOnline_7 rfl ?_
    refine e_get (pc := 8) d_sv_isOnline_8 fl_sv_38 hV.1 rfl ?_
    refine e_ifB_ne (pc := 11) (tgt := 18) d_sv_isOnline_11 (by decide) (fun c2 => ?_) (fun c2 => ?_)
    · refine e_iconst (pc := 18) d_sv_isOnline_18 (v := (bI (false))) rfl ?_
      exact e_retB (pc := 19) d_sv_isOnline_19 rfl (⟨by rw [c, c2]; rfl, rfl, rfl⟩)
    · refine e_iconst (pc := 14) d_sv_isOnline_14 (v := (bI (true))) rfl ?_
      refine e_goto (pc := 15) (tgt := 19) d_sv_isOnline_15 (by decide) ?_
      exact e_retB (pc := 19) d_sv_isOnline_19 rfl (⟨by rw [c, c2]; rfl, rfl, rfl⟩)
set_option maxHeartbeats 4000000 in
set_option maxRecDepth 100000 in
theorem c_sv_leadsBefore {l : Launch} {G : q_G} (htr : l.stackTraces = false) {h : q_H} {N : Nat} {s : Nat} {lf : Nat → Option Nat} {ln ap ag : Nat} {up al : Bool} (hV : sv_At h s lf ln ap ag up al) {s2 : Nat} {lf2 : Nat → Option Nat} {ln2 ap2 ag2 : Nat} {up2 al2 : Bool} (hV2 : sv_At h s2 lf2 ln2 ap2 ag2 up2 al2) (b1 : ag < 2 ^ 31) (b2 : ag2 < 2 ^ 31) (b3 : ln < 2 ^ 31) (b4 : ln2 < 2 ^ 31) : q_Met l G m_sv_leadsBefore 0 0 0 0 [.ref (s), .ref (s2)] h N (q_Id (some (.int (bI (decide (ag2 < ag ∨ ag = ag2 ∧ ln2 < ln))))) h N) := by
  refine q_Met.mk htr (by decide +kernel) rfl (List.forall_mem_cons.mpr ⟨rfl, List.forall_mem_cons.mpr ⟨rfl, fun _ h => nomatch h⟩⟩) (Nat.le_of_ble_eq_true rfl) ?_
  refine e_aload_n (pc := 0) d_sv_leadsBefore_0 rfl ?_
  refine e_get (pc := 1) d_sv_leadsBefore_1 fl_sv_31 hV.1 rfl ?_
  refine e_aload_n (pc := 4) d_sv_leadsBefore_4 rfl ?_
  refine e_get (pc := 5) d_sv_leadsBefore_5 fl_sv_31 hV2.1 rfl ?_
  refine e_icmp_gtN (pc := 8) (tgt := 33) d_sv_leadsBefore_8 (by decide) (by omega) (by omega) (fun c => ?_) (fun c => ?_)
  · refine e_iconst (pc := 33) d_sv_leadsBefore_33 (v := (bI (true))) rfl ?_
    refine e_goto (pc := 34) (tgt := 38) d_sv_leadsBefore_34 (by decide) ?_
    exact e_retB (pc := 38) d_sv_leadsBefore_38 rfl (⟨by rw [decide_eq_true (Or.inl c)], rfl, rfl⟩)
  · refine e_aload_n (pc := 11) d_sv_leadsBefore_11 rfl ?_
    refine e_get (pc := 12) d_sv_leadsBefore_12 fl_sv_31 hV.1 rfl ?_
    refine e_aload_n (pc := 15) d_sv_leadsBefore_15 rfl ?_
    refine e_get (pc := 16) d_sv_leadsBefore_16 fl_sv_31 hV2.1 rfl ?_
    refine e_icmp_neN (pc := 19) (tgt := 37) d_sv_leadsBefore_19 (by decide) (by omega) (by omega) (fun c2 => ?_) (fun c2 => ?_)
    · refine e_iconst (pc := 37) d_sv_leadsBefore_37 (v := (bI (false))) rfl ?_
      exact e_retB (pc := 38) d_sv_leadsBefore_38 rfl (⟨by rw [decide_eq_false (by omega)], rfl, rfl⟩)
    · refine e_aload_n (pc := 22) d_sv_leadsBefore_22 rfl ?_
      refine e_get (pc := 23) d_sv_leadsBefore_23 fl_sv_24 hV.1 rfl ?_
      refine e_aload_n (pc := 26) d_sv_leadsBefore_26 rfl ?_
      refine e_get (pc := 27) d_sv_leadsBefore_27 fl_sv_24 hV2.1 rfl ?_
      refine e_icmp_leN (pc := 30) (tgt := 37) d_sv_leadsBefore_30 (by decide) (by omega) (by omega) (fun c3 => ?_) (fun c3 => ?_)
      · refine e_iconst (pc := 37) d_sv_leadsBefore_37 (v := (bI (false))) rfl ?_
        exact e_retB (pc := 38) d_sv_leadsBefore_38 rfl (⟨by rw [decide_eq_false (by omega)], rfl, rfl⟩)
      · refine e_iconst (pc := 33) d_sv_leadsBefore_33 (v := (bI (true))) rfl ?_
        refine e_goto (pc := 34) (tgt := 38) d_sv_leadsBefore_34 (by decide) ?_
        exact e_retB (pc := 38) d_sv_leadsBefore_38 rfl (⟨by rw [decide_eq_true (by omega)], rfl, rfl⟩)
set_option maxHeartbeats 4000000 in
set_option maxRecDepth 100000 in
theorem c_sv_append {l : Launch} {G : q_G} (htr : l.stackTraces = false) {h : q_H} {N : Nat} {s : Nat} {lf : Nat → Option Nat} {ln ap ag : Nat} {up al : Bool} (hV : sv_At h s lf ln ap ag up al) {a : Nat} {vs : List Value} (ha : h a = some (.inr (0, vs))) (hx : a < s ∨ s + 1 < a) (hl : ln < 64) : q_Met l G m_sv_append 0 0 0 0 [.ref (s), .ref (a)] h N (q_To none (sv_put h s (va_up lf ln (some a)) (ln + 1) ap ag up al) N) := by
  refine q_Met.mk htr (by decide +kernel) rfl (List.forall_mem_cons.mpr ⟨rfl, List.forall_mem_cons.mpr ⟨rfl, fun _ h => nomatch h⟩⟩) (Nat.le_of_ble_eq_true rfl) ?_
  refine q_Ev.hp (sv_put_id hV) ?_
  refine e_aload_n (pc := 0) d_sv_append_0 rfl ?_
  refine e_get (pc := 1) d_sv_append_1 fl_sv_24 sv_g0 rfl ?_
  refine e_bipush (pc := 4) d_sv_append_4 (v := (nI (64))) rfl ?_
  refine e_icmp_geN (pc := 6) (tgt := 29) d_sv_append_6 (by decide) (by omega) (by omega) (fun c => ?_) (fun c => ?_)
  · omega
  · refine e_aload_n (pc := 9) d_sv_append_9 rfl ?_
    refine e_get (pc := 10) d_sv_append_10 fl_sv_11 sv_g0 rfl ?_
    refine e_aload_n (pc := 13) d_sv_append_13 rfl ?_
    refine e_get (pc := 14) d_sv_append_14 fl_sv_24 sv_g0 rfl ?_
    refine e_aload_n (pc := 17) d_sv_append_17 rfl ?_
    refine e_aastN (pc := 18) d_sv_append_18 sv_g1 ((sv_gx hx).trans ha) rfl (fun _ => rfl) (by omega) (by decide) ?_
    rw [sv_u1]
    refine e_aload_n (pc := 19) d_sv_append_19 rfl ?_
    refine e_dup (pc := 20) d_sv_append_20 rfl ?_
    refine e_get (pc := 21) d_sv_append_21 fl_sv_24 sv_g0 rfl ?_
    refine e_iconst (pc := 24) d_sv_append_24 (v := (nI (1))) rfl ?_
    refine e_iaddN (pc := 25) d_sv_append_25  ?_
    refine e_putE (pc := 26) d_sv_append_26 (fs2 := [.ref (s + 1), .ref (s + 2), .int (nI ((ln) + (1))), .int (nI (ap)), .int (nI (ag)), .int (bI (up)), .int (bI (al))]) fl_sv_24 sv_g0 (Nat.le_of_ble_eq_true rfl) (fun _ => rfl) (fun _ => rfl) rfl ?_
    rw [sv_u0]
    exact e_vret (pc := 29) d_sv_append_29 rfl (⟨rfl, rfl, rfl⟩)
set_option maxHeartbeats 4000000 in
set_option maxRecDepth 100000 in
theorem c_ss_standing {l : Launch} {G : q_G} (htr : l.stackTraces = false) {h : q_H} {N : Nat} {s : Nat} {w ev : Nat → Int32} {cn : Nat} {op du : Bool} {sv : Nat} {to he : Int32} (hS : ss_At h s w ev cn op du sv to he) : q_Met l G m_ss_standing 0 0 0 0 [.ref (s)] h N (q_Id (some (.int (nI (if op then 1 else if du then 2 else 0)))) h N) := by
  refine q_Met.mk htr (by decide +kernel) rfl (List.forall_mem_cons.mpr ⟨rfl, fun _ h => nomatch h⟩) (Nat.le_of_ble_eq_true rfl) ?_
  refine e_aload_n (pc := 0) d_ss_standing_0 rfl ?_
  refine e_get (pc := 1) d_ss_standing_1 fl_ss_22 hS.1 rfl ?_
  refine e_ifB_eq (pc := 4) (tgt := 11) d_ss_standing_4 (by decide) (fun c => ?_) (fun c => ?_)
  · refine e_aload_n (pc := 11) d_ss_standing_11 rfl ?_
    refine e_get (pc := 12) d_ss_standing_12 fl_ss_26 hS.1 rfl ?_
    refine e_ifB_eq (pc := 15) (tgt := 22) d_ss_standing_15 (by decide) (fun c2 => ?_) (fun c2 => ?_)
    · refine e_iconst (pc := 22) d_ss_standing_22 (v := (nI (0))) rfl ?_
      exact e_iret (pc := 23) d_ss_standing_23 rfl (⟨by simp [c, c2], rfl, rfl⟩)
    · refine e_iconst (pc := 18) d_ss_standing_18 (v := (nI (2))) rfl ?_
      refine e_goto (pc := 19) (tgt := 23) d_ss_standing_19 (by decide) ?_
      exact e_iret (pc := 23) d_ss_standing_23 rfl (⟨by simp [c, c2], rfl, rfl⟩)
  · refine e_iconst (pc := 7) d_ss_standing_7 (v := (nI (1))) rfl ?_
    refine e_goto (pc := 8) (tgt := 23) d_ss_standing_8 (by decide) ?_
    exact e_iret (pc := 23) d_ss_standing_23 rfl (⟨by simp [c], rfl, rfl⟩)
set_option maxHeartbeats 4000000 in
set_option maxRecDepth 100000 in
theorem c_ss_start {l : Launch} {G : q_G} (htr : l.stackTraces = false) {h : q_H} {N : Nat} {s : Nat} {w ev : Nat → Int32} {cn : Nat} {op du : Bool} {sv : Nat} {to he : Int32} (hS : ss_At h s w ev cn op du sv to he) {sv2 : Nat} {to2 he2 : Int32} : q_Met l G m_ss_start 0 0 0 0 [.ref (s), .int (nI (sv2)), .int (to2), .int (he2)] h N (q_To none (ss_put h s w ev cn true du sv2 to2 he2) N) := by
  refine q_Met.mk htr (by decide +kernel) rfl (List.forall_mem_cons.mpr ⟨rfl, List.forall_mem_cons.mpr ⟨rfl, List.forall_mem_cons.mpr ⟨rfl, List.forall_mem_cons.mpr ⟨rfl, fun _ h => nomatch h⟩⟩⟩⟩) (Nat.le_of_ble_eq_true rfl) ?_
  refine q_Ev.hp (ss_put_id hS) ?_
  refine e_aload_n (pc := 0) d_ss_start_0 rfl ?_
  refine e_iconst (pc := 1) d_ss_start_1 (v := (bI (true))) rfl ?_
  refine e_putE (pc := 2) d_ss_start_2 (fs2 := [.ref (s + 1), .ref (s + 2), .int (nI (cn)), .int (bI (true)), .int (bI (du)), .int (nI (sv)), .int (to), .int (he)]) fl_ss_22 ss_g0 (Nat.le_of_ble_eq_true rfl) (fun _ => bI_nar _) (fun _ => by first | rfl | (cases (true : Bool) <;> rfl)) rfl ?_
  rw [ss_u0]
  refine e_aload_n (pc := 5) d_ss_start_5 rfl ?_
  refine e_iload_n (pc := 6) d_ss_start_6 rfl ?_
  refine e_putE (pc := 7) d_ss_start_7 (fs2 := [.ref (s + 1), .ref (s + 2), .int (nI (cn)), .int (bI (true)), .int (bI (du)), .int (nI (sv2)), .int (to), .int (he)]) fl_ss_29 ss_g0 (Nat.le_of_ble_eq_true rfl) (fun _ => rfl) (fun _ => rfl) rfl ?_
  rw [ss_u0]
  refine e_aload_n (pc := 10) d_ss_start_10 rfl ?_
  refine e_iload_n (pc := 11) d_ss_start_11 rfl ?_
  refine e_putE (pc := 12) d_ss_start_12 (fs2 := [.ref (s + 1), .ref (s + 2), .int (nI (cn)), .int (bI (true)), .int (bI (du)), .int (nI (sv2)), .int (to2), .int (he)]) fl_ss_32 ss_g0 (Nat.le_of_ble_eq_true rfl) (fun _ => rfl) (fun _ => rfl) rfl ?_
  rw [ss_u0]
  refine e_aload_n (pc := 15) d_ss_start_15 rfl ?_
  refine e_iload_n (pc := 16) d_ss_start_16 rfl ?_
  refine e_putE (pc := 17) d_ss_start_17 (fs2 := [.ref (s + 1), .ref (s + 2), .int (nI (cn)), .int (bI (true)), .int (bI (du)), .int (nI (sv2)), .int (to2), .int (he2)]) fl_ss_35 ss_g0 (Nat.le_of_ble_eq_true rfl) (fun _ => rfl) (fun _ => rfl) rfl ?_
  rw [ss_u0]
  exact e_vret (pc := 20) d_ss_start_20 rfl (⟨rfl, rfl, rfl⟩)
set_option maxHeartbeats 4000000 in
set_option maxRecDepth 100000 in
theorem c_ss_dropWatches {l : Launch} {G : q_G} (htr : l.stackTraces = false) {h : q_H} {N : Nat} {s : Nat} {w ev : Nat → Int32} {cn : Nat} {op du : Bool} {sv : Nat} {to he : Int32} (hS : ss_At h s w ev cn op du sv to he) : q_Met l G m_ss_dropWatches 1 23 0 0 [.ref (s)] h N (q_To none (ss_put h s (fillN w 259 (nI 0)) ev cn op du sv to he) N) := by
  refine q_Met.mk htr (by decide +kernel) rfl (List.forall_mem_cons.mpr ⟨rfl, fun _ h => nomatch h⟩) (Nat.le_of_ble_eq_true rfl) ?_
  refine e_aload_n (pc := 0) d_ss_dropWatches_0 rfl ?_
  refine e_get (pc := 1) d_ss_dropWatches_1 fl_ss_9 hS.1 rfl ?_
  refine e_iconst (pc := 4) d_ss_dropWatches_4 (v := (nI (0))) rfl ?_
  refine e_callS (As := [.ref (s + 1), .int (nI (0))]) (st := []) (cc2 := 0) (ss2 := 0) (pc := 5) d_ss_dropWatches_5 rfl cs_ss_41 (c_ar_fill htr (v := nI 0) (by decide) hS.2.1) rfl (by decide) (by decide) (by omega) (by omega) (Nat.le_of_ble_eq_true rfl) (fun _ _ _ hq => nomatch hq.1) (fun r h2 N2 hq => ?_)
  obtain ⟨hr, e1, e2⟩ := hq
  cases hr
  rw [e1, e2]
  clear e1 e2
  show q_Ev l G m_ss_dropWatches 1 23 0 0 8 [some (.ref (s))] [] _ N _
  exact e_vret (pc := 8) d_ss_dropWatches_8 rfl (⟨rfl, by rw [← ss_u1, ss_put_id hS], rfl⟩)
set_option maxHeartbeats 4000000 in
set_option maxRecDepth 100000 in
theorem c_ss_end {l : Launch} {G : q_G} (htr : l.stackTraces = false) {h : q_H} {N : Nat} {s : Nat} {w ev : Nat → Int32} {cn : Nat} {op du : Bool} {sv : Nat} {to he : Int32} (hS : ss_At h s w ev cn op du sv to he) : q_Met l G m_ss_end 2 43 0 0 [.ref (s)] h N (q_To none (ss_put h s (fillN w 259 (nI 0)) ev 0 false true sv to he) N) := by
  refine q_Met.mk htr (by decide +kernel) rfl (List.forall_mem_cons.mpr ⟨rfl, fun _ h => nomatch h⟩) (Nat.le_of_ble_eq_true rfl) ?_
  refine q_Ev.hp (ss_put_id hS) ?_
  refine e_aload_n (pc := 0) d_ss_end_0 rfl ?_
  refine e_iconst (pc := 1) d_ss_end_1 (v := (bI (false))) rfl ?_
  refine e_putE (pc := 2) d_ss_end_2 (fs2 := [.ref (s + 1), .ref (s + 2), .int (nI (cn)), .int (bI (false)), .int (bI (du)), .int (nI (sv)), .int (to), .int (he)]) fl_ss_22 ss_g0 (Nat.le_of_ble_eq_true rfl) (fun _ => bI_nar _) (fun _ => by first | rfl | (cases (false : Bool) <;> rfl)) rfl ?_
  rw [ss_u0]
  refine e_aload_n (pc := 5) d_ss_end_5 rfl ?_
  refine e_iconst (pc := 6) d_ss_end_6 (v := (bI (true))) rfl ?_
  refine e_putE (pc := 7) d_ss_end_7 (fs2 := [.ref (s + 1), .ref (s + 2), .int (nI (cn)), .int (bI (false)), .int (bI (true)), .int (nI (sv)), .int (to), .int (he)]) fl_ss_26 ss_g0 (Nat.le_of_ble_eq_true rfl) (fun _ => bI_nar _) (fun _ => by first | rfl | (cases (true : Bool) <;> rfl)) rfl ?_
  rw [ss_u0]
  refine e_aload_n (pc := 10) d_ss_end_10 rfl ?_
  refine e_iconst (pc := 11) d_ss_end_11 (v := (nI (0))) rfl ?_
  refine e_putE (pc := 12) d_ss_end_12 (fs2 := [.ref (s + 1), .ref (s + 2), .int (nI (0)), .int (bI (false)), .int (bI (true)), .int (nI (sv)), .int (to), .int (he)]) fl_ss_18 ss_g0 (Nat.le_of_ble_eq_true rfl) (fun _ => rfl) (fun _ => rfl) rfl ?_
  rw [ss_u0]
  refine e_aload_n (pc := 15) d_ss_end_15 rfl ?_
  refine e_callV (As := []) (st := []) (cc2 := 0) (ss2 := 0) (pc := 16) d_ss_end_16 rfl cv_ss_38 ss_g0 rfl (c_ss_dropWatches htr ss_put_at) rfl (by decide) (by decide) (by omega) (by omega) (Nat.le_of_ble_eq_true rfl) (fun _ _ _ hq => nomatch hq.1) (fun r h2 N2 hq => ?_)
  obtain ⟨hr, e1, e2⟩ := hq
  cases hr
  rw [e1, e2]
  clear e1 e2
  show q_Ev l G m_ss_end 2 43 0 0 19 [some (.ref (s))] [] _ N _
  exact e_vret (pc := 19) d_ss_end_19 rfl (⟨rfl, ss_put_put, rfl⟩)
set_option maxHeartbeats 4000000 in
set_option maxRecDepth 100000 in
theorem c_ss_watch {l : Launch} {G : q_G} (htr : l.stackTraces = false) {h : q_H} {N : Nat} {s : Nat} {w ev : Nat → Int32} {cn : Nat} {op du : Bool} {sv : Nat} {to he : Int32} (hS : ss_At h s w ev cn op du sv to he) {p : Nat} {k : Int32} (hp : p < 259) : q_Met l G m_ss_watch 0 0 0 0 [.ref (s), .int (nI (p)), .int (k)] h N (q_To none (ss_put h s (upd w p (w p ||| k)) ev cn op du sv to he) N) := by
  refine q_Met.mk htr (by decide +kernel) rfl (List.forall_mem_cons.mpr ⟨rfl, List.forall_mem_cons.mpr ⟨rfl, List.forall_mem_cons.mpr ⟨rfl, fun _ h => nomatch h⟩⟩⟩) (Nat.le_of_ble_eq_true rfl) ?_
  refine q_Ev.hp (ss_put_id hS) ?_
  refine e_aload_n (pc := 0) d_ss_watch_0 rfl ?_
  refine e_get (pc := 1) d_ss_watch_1 fl_ss_9 ss_g0 rfl ?_
  refine e_iload_n (pc := 4) d_ss_watch_4 rfl ?_
  refine e_dup2 (pc := 5) d_ss_watch_5 rfl rfl ?_
  refine e_ialdN (pc := 6) d_ss_watch_6 ss_g1 (by omega) (by decide) ?_
  refine e_iload_n (pc := 7) d_ss_watch_7 rfl ?_
  refine e_ior (pc := 8) d_ss_watch_8  ?_
  refine e_iastN (pc := 9) d_ss_watch_9 ss_g1 (by omega) (by decide) ?_
  rw [ss_u1]
  exact e_vret (pc := 10) d_ss_watch_10 rfl (⟨rfl, rfl, rfl⟩)

/-! THE LAW: what a call leaves of the heap; the handlers; the 19 wrappers (wip/whole/p80.py) -/
def Ex (x y : zX) : Prop := x_N x ≤ x_N y ∧ ∀ a, a ≤ x_N x → x_h y a = x_h x a
theorem Ex_r (x : zX) : Ex x x := ⟨Nat.le_refl _, fun _ _ => rfl⟩
theorem Ex_t {x y z : zX} (h : Ex x y) (k : Ex y z) : Ex x z := ⟨Nat.le_trans h.1 k.1, fun a ha => (k.2 a (Nat.le_trans ha h.1)).trans (h.2 a ha)⟩
theorem Ex_ent (e : zE) (x : zX) : Ex x (x_ent e x) := ⟨Nat.le_succ _, fun a ha => q_up_n _ (by omega)⟩
theorem Ex_pr (e : zE) (x : zX) : Ex x (x_pr e x) := ⟨Nat.le_succ _, fun a ha => q_up_n _ (by omega)⟩
theorem Ex_c1 (i : Nat) (x : zX) : Ex x (cl1 i x) := by
  unfold cl1
  split
  · split
    · exact Ex_pr (3, 0, nI 0, nI i, false) x
    · exact Ex_r x
  · exact Ex_r x
theorem Ex_cG : ∀ (g i : Nat) (x : zX), Ex x (clG g i x) := by
  intro g
  induction g with
  | zero => intro i x; exact Ex_r x
  | succ g ih => intro i x; exact Ex_t (Ex_c1 i x) (ih (i + 1) (cl1 i x))
theorem Ex_cd (x : zX) : Ex x (x_cd x) := by
  unfold x_cd
  split
  · exact Ex_cG 4 0 x
  · exact Ex_r x
theorem Ex_prop (e : zE) (ans : zX → Int32) (x : zX) : Ex x (z_prop e ans x).2 := by
  unfold z_prop
  split
  · exact Ex_ent e x
  · split
    · exact Ex_pr e x
    · exact Ex_pr e x
theorem Ex_open (s i to : Int32) (x : zX) : Ex x (z_open s i to x).2 := by
  unfold z_open
  repeat' split
  all_goals (first | exact Ex_r x | exact Ex_prop _ _ x)
theorem Ex_close (s : Int32) (x : zX) : Ex x (z_close s x).2 := by
  unfold z_close
  split
  · split
    · exact Ex_cd (x_sR x (z_en (x_R x) (nT s)))
    · exact Ex_r x
  · exact Ex_r x
theorem Ex_ping (s : Int32) (x : zX) : Ex x (z_ping s x).2 := by
  unfold z_ping
  repeat' split
  all_goals (first | exact Ex_r x | exact Ex_prop _ _ x)
theorem Ex_move (s i : Int32) (x : zX) : Ex x (z_move s i x).2 := by
  unfold z_move
  repeat' split
  all_goals (first | exact Ex_r x | exact Ex_prop _ _ x)
theorem Ex_create (s q d f : Int32) (x : zX) : Ex x (z_create s q d f x).2 := by
  unfold z_create z_cr1 z_cr2
  repeat' split
  all_goals (first | exact Ex_r x | exact Ex_prop _ _ x)
theorem Ex_set (s q v d : Int32) (x : zX) : Ex x (z_set s q v d x).2 := by
  unfold z_set
  repeat' split
  all_goals (first | exact Ex_r x | exact Ex_prop _ _ x)
theorem Ex_delete (s q v : Int32) (x : zX) : Ex x (z_delete s q v x).2 := by
  unfold z_delete
  repeat' split
  all_goals (first | exact Ex_r x | exact Ex_prop _ _ x)
theorem Ex_get (s q : Int32) (b : Bool) (x : zX) : Ex x (z_get s q b x).2 := by
  unfold z_get
  repeat' split
  all_goals (first | exact Ex_r x | exact Ex_prop _ _ x)
theorem Ex_exists (s q : Int32) (b : Bool) (x : zX) : Ex x (z_exists s q b x).2 := by
  unfold z_exists
  repeat' split
  all_goals (first | exact Ex_r x | exact Ex_prop _ _ x)
theorem Ex_children (s q : Int32) (b : Bool) (x : zX) : Ex x (z_children s q b x).2 := by
  unfold z_children
  repeat' split
  all_goals (first | exact Ex_r x | exact Ex_prop _ _ x)
theorem Ex_fact (s q w : Int32) (x : zX) : Ex x (z_fact s q w x).2 := by
  unfold z_fact
  repeat' split
  all_goals (first | exact Ex_r x | exact Ex_prop _ _ x)
theorem Ex_event (s : Int32) (x : zX) : Ex x (z_event s x).2 := by
  unfold z_event
  repeat' split
  all_goals (first | exact Ex_r x | exact Ex_prop _ _ x)
theorem Ex_crash (i : Int32) (x : zX) : Ex x (z_crash i x).2 := by
  unfold z_crash
  repeat' split
  all_goals (first | exact Ex_r x | exact Ex_prop _ _ x)
theorem Ex_restart (i : Int32) (x : zX) : Ex x (z_restart i x).2 := by
  unfold z_restart
  split
  · split
    · exact Ex_cd (z_rs0 (nT i) x)
    · exact Ex_r x
  · exact Ex_r x
theorem Ex_alone (i : Int32) (b : Bool) (x : zX) : Ex x (z_alone i b x).2 := by
  unfold z_alone
  split
  · exact Ex_cd (z_al0 (nT i) b x)
  · exact Ex_r x
theorem Ex_elect  (x : zX) : Ex x (z_elect  x).2 := by
  unfold z_elect
  split
  · split
    · exact Ex_r x
    · next k _ => exact Ex_cd (z_el0 k x)
  · exact Ex_r x
theorem Ex_tick (b : Int32) (x : zX) : Ex x (z_tick b x).2 := by
  unfold z_tick
  split
  · exact Ex_cd (x_sR x (tkK (x_R (z_tk0 b x)) 4).1)
  · exact Ex_r x
theorem Ex_state (i w : Int32) (x : zX) : Ex x (z_state i w x).2 := by
  unfold z_state
  repeat' split
  all_goals (first | exact Ex_r x | exact Ex_prop _ _ x)
theorem Ex_count (w : Int32) (x : zX) : Ex x (z_count w x).2 := by
  unfold z_count
  repeat' split
  all_goals (first | exact Ex_r x | exact Ex_prop _ _ x)
theorem f_IAE : Cond.castable IAE IAE ∈ q_face := List.mem_filter.mpr ⟨List.mem_of_getElem? (i := 206) (by decide +kernel), by decide +kernel⟩
theorem f_ISE : Cond.castable ISE ISE ∈ q_face := List.mem_filter.mpr ⟨List.mem_of_getElem? (i := 286) (by decide +kernel), by decide +kernel⟩
theorem f_NSE : Cond.castable NSE NSE ∈ q_face := List.mem_filter.mpr ⟨List.mem_of_getElem? (i := 463) (by decide +kernel), by decide +kernel⟩
theorem f_UOE : Cond.castable UOE UOE ∈ q_face := List.mem_filter.mpr ⟨List.mem_of_getElem? (i := 478) (by decide +kernel), by decide +kernel⟩
theorem f_IOB : Cond.castable IOB IOB ∈ q_face := List.mem_filter.mpr ⟨List.mem_of_getElem? (i := 494) (by decide +kernel), by decide +kernel⟩
theorem hd_open_0 : q_Hd m_lw_open 7 IAE 15 := ⟨tableOf [], _, tableOf [(0, 12, 19, 15)], IAE, rfl, (fun _ h => nomatch h), by decide, by decide, k_152, f_IAE, rfl⟩
theorem hd_open_1 : q_Hd m_lw_open 7 ISE 19 := ⟨tableOf [(0, 12, 15, 13)], _, tableOf [], ISE, rfl, List.forall_mem_cons.mpr ⟨⟨by decide, _, k_152, by decide⟩, (fun _ h => nomatch h)⟩, by decide, by decide, k_153, f_ISE, rfl⟩
theorem hd_close_0 : q_Hd m_lw_close 4 IAE 12 := ⟨tableOf [], _, tableOf [(0, 9, 15, 15)], IAE, rfl, (fun _ h => nomatch h), by decide, by decide, k_152, f_IAE, rfl⟩
theorem hd_close_1 : q_Hd m_lw_close 4 ISE 15 := ⟨tableOf [(0, 9, 12, 13)], _, tableOf [], ISE, rfl, List.forall_mem_cons.mpr ⟨⟨by decide, _, k_152, by decide⟩, (fun _ h => nomatch h)⟩, by decide, by decide, k_153, f_ISE, rfl⟩
theorem hd_ping_0 : q_Hd m_lw_ping 4 IAE 12 := ⟨tableOf [], _, tableOf [(0, 9, 15, 15)], IAE, rfl, (fun _ h => nomatch h), by decide, by decide, k_152, f_IAE, rfl⟩
theorem hd_ping_1 : q_Hd m_lw_ping 4 ISE 15 := ⟨tableOf [(0, 9, 12, 13)], _, tableOf [], ISE, rfl, List.forall_mem_cons.mpr ⟨⟨by decide, _, k_152, by decide⟩, (fun _ h => nomatch h)⟩, by decide, by decide, k_153, f_ISE, rfl⟩
theorem hd_move_0 : q_Hd m_lw_move 5 IAE 13 := ⟨tableOf [], _, tableOf [(0, 10, 17, 15)], IAE, rfl, (fun _ h => nomatch h), by decide, by decide, k_152, f_IAE, rfl⟩
theorem hd_move_1 : q_Hd m_lw_move 5 ISE 17 := ⟨tableOf [(0, 10, 13, 13)], _, tableOf [], ISE, rfl, List.forall_mem_cons.mpr ⟨⟨by decide, _, k_152, by decide⟩, (fun _ h => nomatch h)⟩, by decide, by decide, k_153, f_ISE, rfl⟩
theorem hd_create_0 : q_Hd m_lw_create 9 IAE 17 := ⟨tableOf [], _, tableOf [(0, 14, 21, 15), (0, 14, 25, 32), (0, 14, 29, 34), (0, 14, 33, 36)], IAE, rfl, (fun _ h => nomatch h), by decide, by decide, k_152, f_IAE, rfl⟩
theorem hd_create_1 : q_Hd m_lw_create 9 ISE 21 := ⟨tableOf [(0, 14, 17, 13)], _, tableOf [(0, 14, 25, 32), (0, 14, 29, 34), (0, 14, 33, 36)], ISE, rfl, List.forall_mem_cons.mpr ⟨⟨by decide, _, k_152, by decide⟩, (fun _ h => nomatch h)⟩, by decide, by decide, k_153, f_ISE, rfl⟩
theorem hd_create_2 : q_Hd m_lw_create 9 NSE 25 := ⟨tableOf [(0, 14, 17, 13), (0, 14, 21, 15)], _, tableOf [(0, 14, 29, 34), (0, 14, 33, 36)], NSE, rfl, List.forall_mem_cons.mpr ⟨⟨by decide, _, k_152, by decide⟩, List.forall_mem_cons.mpr ⟨⟨by decide, _, k_153, by decide⟩, (fun _ h => nomatch h)⟩⟩, by decide, by decide, k_406, f_NSE, rfl⟩
theorem hd_create_3 : q_Hd m_lw_create 9 UOE 29 := ⟨tableOf [(0, 14, 17, 13), (0, 14, 21, 15), (0, 14, 25, 32)], _, tableOf [(0, 14, 33, 36)], UOE, rfl, List.forall_mem_cons.mpr ⟨⟨by decide, _, k_152, by decide⟩, List.forall_mem_cons.mpr ⟨⟨by decide, _, k_153, by decide⟩, List.forall_mem_cons.mpr ⟨⟨by decide, _, k_406, by decide⟩, (fun _ h => nomatch h)⟩⟩⟩, by decide, by decide, k_407, f_UOE, rfl⟩
theorem hd_create_4 : q_Hd m_lw_create 9 IOB 33 := ⟨tableOf [(0, 14, 17, 13), (0, 14, 21, 15), (0, 14, 25, 32), (0, 14, 29, 34)], _, tableOf [], IOB, rfl, List.forall_mem_cons.mpr ⟨⟨by decide, _, k_152, by decide⟩, List.forall_mem_cons.mpr ⟨⟨by decide, _, k_153, by decide⟩, List.forall_mem_cons.mpr ⟨⟨by decide, _, k_406, by decide⟩, List.forall_mem_cons.mpr ⟨⟨by decide, _, k_407, by decide⟩, (fun _ h => nomatch h)⟩⟩⟩⟩, by decide, by decide, k_408, f_IOB, rfl⟩
theorem hd_set_0 : q_Hd m_lw_set 9 IAE 17 := ⟨tableOf [], _, tableOf [(0, 14, 21, 15), (0, 14, 25, 32)], IAE, rfl, (fun _ h => nomatch h), by decide, by decide, k_152, f_IAE, rfl⟩
theorem hd_set_1 : q_Hd m_lw_set 9 ISE 21 := ⟨tableOf [(0, 14, 17, 13)], _, tableOf [(0, 14, 25, 32)], ISE, rfl, List.forall_mem_cons.mpr ⟨⟨by decide, _, k_152, by decide⟩, (fun _ h => nomatch h)⟩, by decide, by decide, k_153, f_ISE, rfl⟩
theorem hd_set_2 : q_Hd m_lw_set 9 NSE 25 := ⟨tableOf [(0, 14, 17, 13), (0, 14, 21, 15)], _, tableOf [], NSE, rfl, List.forall_mem_cons.mpr ⟨⟨by decide, _, k_152, by decide⟩, List.forall_mem_cons.mpr ⟨⟨by decide, _, k_153, by decide⟩, (fun _ h => nomatch h)⟩⟩, by decide, by decide, k_406, f_NSE, rfl⟩
theorem hd_delete_0 : q_Hd m_lw_delete 7 IAE 15 := ⟨tableOf [], _, tableOf [(0, 12, 19, 15), (0, 12, 23, 32), (0, 12, 27, 34)], IAE, rfl, (fun _ h => nomatch h), by decide, by decide, k_152, f_IAE, rfl⟩
theorem hd_delete_1 : q_Hd m_lw_delete 7 ISE 19 := ⟨tableOf [(0, 12, 15, 13)], _, tableOf [(0, 12, 23, 32), (0, 12, 27, 34)], ISE, rfl, List.forall_mem_cons.mpr ⟨⟨by decide, _, k_152, by decide⟩, (fun _ h => nomatch h)⟩, by decide, by decide, k_153, f_ISE, rfl⟩
theorem hd_delete_2 : q_Hd m_lw_delete 7 NSE 23 := ⟨tableOf [(0, 12, 15, 13), (0, 12, 19, 15)], _, tableOf [(0, 12, 27, 34)], NSE, rfl, List.forall_mem_cons.mpr ⟨⟨by decide, _, k_152, by decide⟩, List.forall_mem_cons.mpr ⟨⟨by decide, _, k_153, by decide⟩, (fun _ h => nomatch h)⟩⟩, by decide, by decide, k_406, f_NSE, rfl⟩
theorem hd_delete_3 : q_Hd m_lw_delete 7 UOE 27 := ⟨tableOf [(0, 12, 15, 13), (0, 12, 19, 15), (0, 12, 23, 32)], _, tableOf [], UOE, rfl, List.forall_mem_cons.mpr ⟨⟨by decide, _, k_152, by decide⟩, List.forall_mem_cons.mpr ⟨⟨by decide, _, k_153, by decide⟩, List.forall_mem_cons.mpr ⟨⟨by decide, _, k_406, by decide⟩, (fun _ h => nomatch h)⟩⟩⟩, by decide, by decide, k_407, f_UOE, rfl⟩
theorem hd_get_0 : q_Hd m_lw_get 7 IAE 15 := ⟨tableOf [], _, tableOf [(0, 12, 19, 15), (0, 12, 23, 32)], IAE, rfl, (fun _ h => nomatch h), by decide, by decide, k_152, f_IAE, rfl⟩
theorem hd_get_1 : q_Hd m_lw_get 7 ISE 19 := ⟨tableOf [(0, 12, 15, 13)], _, tableOf [(0, 12, 23, 32)], ISE, rfl, List.forall_mem_cons.mpr ⟨⟨by decide, _, k_152, by decide⟩, (fun _ h => nomatch h)⟩, by decide, by decide, k_153, f_ISE, rfl⟩
theorem hd_get_2 : q_Hd m_lw_get 7 NSE 23 := ⟨tableOf [(0, 12, 15, 13), (0, 12, 19, 15)], _, tableOf [], NSE, rfl, List.forall_mem_cons.mpr ⟨⟨by decide, _, k_152, by decide⟩, List.forall_mem_cons.mpr ⟨⟨by decide, _, k_153, by decide⟩, (fun _ h => nomatch h)⟩⟩, by decide, by decide, k_406, f_NSE, rfl⟩
theorem hd_exists_0 : q_Hd m_lw_exists 7 IAE 22 := ⟨tableOf [], _, tableOf [(0, 19, 26, 15)], IAE, rfl, (fun _ h => nomatch h), by decide, by decide, k_152, f_IAE, rfl⟩
theorem hd_exists_1 : q_Hd m_lw_exists 7 ISE 26 := ⟨tableOf [(0, 19, 22, 13)], _, tableOf [], ISE, rfl, List.forall_mem_cons.mpr ⟨⟨by decide, _, k_152, by decide⟩, (fun _ h => nomatch h)⟩, by decide, by decide, k_153, f_ISE, rfl⟩
theorem hd_children_0 : q_Hd m_lw_children 7 IAE 15 := ⟨tableOf [], _, tableOf [(0, 12, 19, 15), (0, 12, 23, 32)], IAE, rfl, (fun _ h => nomatch h), by decide, by decide, k_152, f_IAE, rfl⟩
theorem hd_children_1 : q_Hd m_lw_children 7 ISE 19 := ⟨tableOf [(0, 12, 15, 13)], _, tableOf [(0, 12, 23, 32)], ISE, rfl, List.forall_mem_cons.mpr ⟨⟨by decide, _, k_152, by decide⟩, (fun _ h => nomatch h)⟩, by decide, by decide, k_153, f_ISE, rfl⟩
theorem hd_children_2 : q_Hd m_lw_children 7 NSE 23 := ⟨tableOf [(0, 12, 15, 13), (0, 12, 19, 15)], _, tableOf [], NSE, rfl, List.forall_mem_cons.mpr ⟨⟨by decide, _, k_152, by decide⟩, List.forall_mem_cons.mpr ⟨⟨by decide, _, k_153, by decide⟩, (fun _ h => nomatch h)⟩⟩, by decide, by decide, k_406, f_NSE, rfl⟩
theorem hd_fact_0 : q_Hd m_lw_fact 7 IAE 15 := ⟨tableOf [], _, tableOf [(0, 12, 19, 15), (0, 12, 23, 32)], IAE, rfl, (fun _ h => nomatch h), by decide, by decide, k_152, f_IAE, rfl⟩
theorem hd_fact_1 : q_Hd m_lw_fact 7 ISE 19 := ⟨tableOf [(0, 12, 15, 13)], _, tableOf [(0, 12, 23, 32)], ISE, rfl, List.forall_mem_cons.mpr ⟨⟨by decide, _, k_152, by decide⟩, (fun _ h => nomatch h)⟩, by decide, by decide, k_153, f_ISE, rfl⟩
theorem hd_fact_2 : q_Hd m_lw_fact 7 NSE 23 := ⟨tableOf [(0, 12, 15, 13), (0, 12, 19, 15)], _, tableOf [], NSE, rfl, List.forall_mem_cons.mpr ⟨⟨by decide, _, k_152, by decide⟩, List.forall_mem_cons.mpr ⟨⟨by decide, _, k_153, by decide⟩, (fun _ h => nomatch h)⟩⟩, by decide, by decide, k_406, f_NSE, rfl⟩
theorem hd_event_0 : q_Hd m_lw_event 4 IAE 12 := ⟨tableOf [], _, tableOf [(0, 9, 15, 15), (0, 9, 18, 32)], IAE, rfl, (fun _ h => nomatch h), by decide, by decide, k_152, f_IAE, rfl⟩
theorem hd_event_1 : q_Hd m_lw_event 4 ISE 15 := ⟨tableOf [(0, 9, 12, 13)], _, tableOf [(0, 9, 18, 32)], ISE, rfl, List.forall_mem_cons.mpr ⟨⟨by decide, _, k_152, by decide⟩, (fun _ h => nomatch h)⟩, by decide, by decide, k_153, f_ISE, rfl⟩
theorem hd_event_2 : q_Hd m_lw_event 4 NSE 18 := ⟨tableOf [(0, 9, 12, 13), (0, 9, 15, 15)], _, tableOf [], NSE, rfl, List.forall_mem_cons.mpr ⟨⟨by decide, _, k_152, by decide⟩, List.forall_mem_cons.mpr ⟨⟨by decide, _, k_153, by decide⟩, (fun _ h => nomatch h)⟩⟩, by decide, by decide, k_406, f_NSE, rfl⟩
theorem hd_crash_0 : q_Hd m_lw_crash 4 IAE 12 := ⟨tableOf [], _, tableOf [(0, 9, 15, 15)], IAE, rfl, (fun _ h => nomatch h), by decide, by decide, k_152, f_IAE, rfl⟩
theorem hd_crash_1 : q_Hd m_lw_crash 4 ISE 15 := ⟨tableOf [(0, 9, 12, 13)], _, tableOf [], ISE, rfl, List.forall_mem_cons.mpr ⟨⟨by decide, _, k_152, by decide⟩, (fun _ h => nomatch h)⟩, by decide, by decide, k_153, f_ISE, rfl⟩
theorem hd_restart_0 : q_Hd m_lw_restart 4 IAE 12 := ⟨tableOf [], _, tableOf [(0, 9, 15, 15)], IAE, rfl, (fun _ h => nomatch h), by decide, by decide, k_152, f_IAE, rfl⟩
theorem hd_restart_1 : q_Hd m_lw_restart 4 ISE 15 := ⟨tableOf [(0, 9, 12, 13)], _, tableOf [], ISE, rfl, List.forall_mem_cons.mpr ⟨⟨by decide, _, k_152, by decide⟩, (fun _ h => nomatch h)⟩, by decide, by decide, k_153, f_ISE, rfl⟩
theorem hd_alone_0 : q_Hd m_lw_alone 5 IAE 13 := ⟨tableOf [], _, tableOf [], IAE, rfl, (fun _ h => nomatch h), by decide, by decide, k_152, f_IAE, rfl⟩
theorem hd_elect_0 : q_Hd m_lw_elect 3 ISE 11 := ⟨tableOf [], _, tableOf [], ISE, rfl, (fun _ h => nomatch h), by decide, by decide, k_153, f_ISE, rfl⟩
theorem hd_tick_0 : q_Hd m_lw_tick 4 IAE 12 := ⟨tableOf [], _, tableOf [], IAE, rfl, (fun _ h => nomatch h), by decide, by decide, k_152, f_IAE, rfl⟩
theorem hd_state_0 : q_Hd m_lw_state 5 IAE 13 := ⟨tableOf [], _, tableOf [], IAE, rfl, (fun _ h => nomatch h), by decide, by decide, k_152, f_IAE, rfl⟩
theorem hd_count_0 : q_Hd m_lw_count 4 IAE 12 := ⟨tableOf [], _, tableOf [], IAE, rfl, (fun _ h => nomatch h), by decide, by decide, k_152, f_IAE, rfl⟩
/-- a wrapper's end -/
def q_W (L : List String) (r : zO) : q_Q := fun o h' N' => x_N r.2 ≤ N' ∧ ((∃ (v : Int32) (f : Nat → Int64), r.1 = zI v ∧ o = .inl (some (.int (nI 0))) ∧ f 0 = v.toInt64 ∧ h' = q_up (zs_put (x_h r.2) (x_R r.2)) 66 (q_al 1 f)) ∨ ∃ (c : Nat) (E : String), L[c]? = some E ∧ r.1 = .inr E ∧ o = .inl (some (.int (nI (c + 1)))) ∧ h' = zs_put (x_h r.2) (x_R r.2))
def q_Rs (L : List String) (r : zO) : Prop := (∃ v, r.1 = zI v) ∨ ∃ (c : Nat) (E : String), L[c]? = some E ∧ r.1 = .inr E
theorem vp_updL_0 {f : Nat → Int64} {x : Int64} : vp_updL f (nI 0).toNatClampNeg x 0 = x := by
  simp [vp_updL, nI_clamp]
theorem bI_64 (b : Bool) : (if b = true then (1 : Int64) else 0) = (bI b).toInt64 := by cases b <;> rfl
set_option maxHeartbeats 1000000 in
theorem c_lw_open {l : Launch} {G : q_G} (htr : l.stackTraces = false) {H : q_H} {N : Nat} {r : zO} {fs : List Value} {f0 : Nat → Int64} {p0 : Int32} {p1 : Int32} {p2 : Int32} (h1 : H 1 = some (.inr (4, fs))) (hM : q_Met l G m_zs_open 8 127 16 96 [.ref 1, .int p0, .int p1, .int p2] H N (q_Z r)) (ho : x_h r.2 66 = some (q_al 1 f0)) (hr : q_Rs [IAE, ISE] r) : q_Met l G m_lw_open 9 151 16 96 [.ref 1, .int p0, .int p1, .int p2, .ref 66] H N (q_W [IAE, ISE] r) := by
  refine q_Met.mkH htr (by decide +kernel) rfl (List.forall_mem_cons.mpr ⟨rfl, List.forall_mem_cons.mpr ⟨rfl, List.forall_mem_cons.mpr ⟨rfl, List.forall_mem_cons.mpr ⟨rfl, List.forall_mem_cons.mpr ⟨rfl, fun _ h => nomatch h⟩⟩⟩⟩⟩) (Nat.le_of_ble_eq_true rfl) ?_
  refine e_aload (pc := 0) d_lw_open_0 rfl ?_
  refine e_iconst (pc := 2) d_lw_open_2 (v := nI 0) rfl ?_
  refine e_aload_n (pc := 3) d_lw_open_3 rfl ?_
  refine e_iload_n (pc := 4) d_lw_open_4 rfl ?_
  refine e_iload_n (pc := 5) d_lw_open_5 rfl ?_
  refine e_iload_n (pc := 6) d_lw_open_6 rfl ?_
  refine e_callVT (pc := 7) (cc2 := 0) (ss2 := 0) (As := [.int p0, .int p1, .int p2]) (st := [.int (nI 0), .ref 66]) d_lw_open_7 cv_lw_7 h1 rfl hM rfl (by decide) (Nat.le_of_ble_eq_true rfl) (by decide) (by decide) (by decide) (fun E h' N' hq => ?_) (fun rr h' N' hq => ?_)
  · obtain ⟨g1, g2, g3⟩ := hq
    rcases hr with ⟨v, hv⟩ | ⟨c, E2, hc, hE⟩
    · rw [hv] at g1; exact nomatch g1
    · rw [hE] at g1
      have g4 : E = E2 := Sum.inr.inj g1
      subst g4
      cases c with
      | zero =>
        have g5 : IAE = E := Option.some.inj hc
        subst g5
        refine ⟨15, 5, 2, hd_open_0, Or.inl ⟨d_lw_open_15, rfl⟩, by decide, ?_⟩
        refine e_iconst (pc := 17) d_lw_open_17 (v := nI 1) rfl ?_
        exact e_iret (pc := 18) d_lw_open_18 rfl ⟨g3, Or.inr ⟨0, _, rfl, hE, rfl, g2⟩⟩
      | succ c1 =>
        cases c1 with
        | zero =>
          have g5 : ISE = E := Option.some.inj hc
          subst g5
          refine ⟨19, 5, 2, hd_open_1, Or.inl ⟨d_lw_open_19, rfl⟩, by decide, ?_⟩
          refine e_iconst (pc := 21) d_lw_open_21 (v := nI 2) rfl ?_
          exact e_iret (pc := 22) d_lw_open_22 rfl ⟨g3, Or.inr ⟨1, _, rfl, hE, rfl, g2⟩⟩
        | succ c2 =>
          exact nomatch hc
  · obtain ⟨g1, g2, g3⟩ := hq
    rcases hr with ⟨v, hv⟩ | ⟨c, E2, hc, hE⟩
    · rw [hv] at g1
      have g4 : rr = some (.int v) := Sum.inl.inj g1
      subst g4
      subst g2
      have h66 : zs_put (x_h r.2) (x_R r.2) 66 = some (q_al 1 f0) := (zs_hi (by decide)).trans ho
      refine e_i2l (pc := 10) d_lw_open_10 ?_
      refine e_last (pc := 11) d_lw_open_11 h66 (vp_inN (by decide) (by decide)) ?_
      refine e_goto (pc := 12) (tgt := 23) d_lw_open_12 (by decide) ?_
      refine e_iconst (pc := 23) d_lw_open_23 (v := nI 0) rfl ?_
      exact e_iret (pc := 24) d_lw_open_24 rfl ⟨g3, Or.inl ⟨v, _, hv, rfl, vp_updL_0, rfl⟩⟩
    · rw [hE] at g1; exact nomatch g1
set_option maxHeartbeats 1000000 in
theorem c_lw_close {l : Launch} {G : q_G} (htr : l.stackTraces = false) {H : q_H} {N : Nat} {r : zO} {fs : List Value} {f0 : Nat → Int64} {p0 : Int32} (h1 : H 1 = some (.inr (4, fs))) (hM : q_Met l G m_zs_close 8 136 16 96 [.ref 1, .int p0] H N (q_Z r)) (ho : x_h r.2 66 = some (q_al 1 f0)) (hr : q_Rs [IAE, ISE] r) : q_Met l G m_lw_close 9 158 16 96 [.ref 1, .int p0, .ref 66] H N (q_W [IAE, ISE] r) := by
  refine q_Met.mkH htr (by decide +kernel) rfl (List.forall_mem_cons.mpr ⟨rfl, List.forall_mem_cons.mpr ⟨rfl, List.forall_mem_cons.mpr ⟨rfl, fun _ h => nomatch h⟩⟩⟩) (Nat.le_of_ble_eq_true rfl) ?_
  refine e_aload_n (pc := 0) d_lw_close_0 rfl ?_
  refine e_iconst (pc := 1) d_lw_close_1 (v := nI 0) rfl ?_
  refine e_aload_n (pc := 2) d_lw_close_2 rfl ?_
  refine e_iload_n (pc := 3) d_lw_close_3 rfl ?_
  refine e_callVT (pc := 4) (cc2 := 0) (ss2 := 0) (As := [.int p0]) (st := [.int (nI 0), .ref 66]) d_lw_close_4 cv_lw_17 h1 rfl hM rfl (by decide) (Nat.le_of_ble_eq_true rfl) (by decide) (by decide) (by decide) (fun E h' N' hq => ?_) (fun rr h' N' hq => ?_)
  · obtain ⟨g1, g2, g3⟩ := hq
    rcases hr with ⟨v, hv⟩ | ⟨c, E2, hc, hE⟩
    · rw [hv] at g1; exact nomatch g1
    · rw [hE] at g1
      have g4 : E = E2 := Sum.inr.inj g1
      subst g4
      cases c with
      | zero =>
        have g5 : IAE = E := Option.some.inj hc
        subst g5
        refine ⟨12, 3, 1, hd_close_0, Or.inr ⟨3, d_lw_close_12, rfl, rfl⟩, by decide, ?_⟩
        refine e_iconst (pc := 13) d_lw_close_13 (v := nI 1) rfl ?_
        exact e_iret (pc := 14) d_lw_close_14 rfl ⟨g3, Or.inr ⟨0, _, rfl, hE, rfl, g2⟩⟩
      | succ c1 =>
        cases c1 with
        | zero =>
          have g5 : ISE = E := Option.some.inj hc
          subst g5
          refine ⟨15, 3, 1, hd_close_1, Or.inr ⟨3, d_lw_close_15, rfl, rfl⟩, by decide, ?_⟩
          refine e_iconst (pc := 16) d_lw_close_16 (v := nI 2) rfl ?_
          exact e_iret (pc := 17) d_lw_close_17 rfl ⟨g3, Or.inr ⟨1, _, rfl, hE, rfl, g2⟩⟩
        | succ c2 =>
          exact nomatch hc
  · obtain ⟨g1, g2, g3⟩ := hq
    rcases hr with ⟨v, hv⟩ | ⟨c, E2, hc, hE⟩
    · rw [hv] at g1
      have g4 : rr = some (.int v) := Sum.inl.inj g1
      subst g4
      subst g2
      have h66 : zs_put (x_h r.2) (x_R r.2) 66 = some (q_al 1 f0) := (zs_hi (by decide)).trans ho
      refine e_i2l (pc := 7) d_lw_close_7 ?_
      refine e_last (pc := 8) d_lw_close_8 h66 (vp_inN (by decide) (by decide)) ?_
      refine e_goto (pc := 9) (tgt := 18) d_lw_close_9 (by decide) ?_
      refine e_iconst (pc := 18) d_lw_close_18 (v := nI 0) rfl ?_
      exact e_iret (pc := 19) d_lw_close_19 rfl ⟨g3, Or.inl ⟨v, _, hv, rfl, vp_updL_0, rfl⟩⟩
    · rw [hE] at g1; exact nomatch g1
set_option maxHeartbeats 1000000 in
theorem c_lw_ping {l : Launch} {G : q_G} (htr : l.stackTraces = false) {H : q_H} {N : Nat} {r : zO} {fs : List Value} {f0 : Nat → Int64} {p0 : Int32} (h1 : H 1 = some (.inr (4, fs))) (hM : q_Met l G m_zs_ping 8 127 16 96 [.ref 1, .int p0] H N (q_Z r)) (ho : x_h r.2 66 = some (q_al 1 f0)) (hr : q_Rs [IAE, ISE] r) : q_Met l G m_lw_ping 9 148 16 96 [.ref 1, .int p0, .ref 66] H N (q_W [IAE, ISE] r) := by
  refine q_Met.mkH htr (by decide +kernel) rfl (List.forall_mem_cons.mpr ⟨rfl, List.forall_mem_cons.mpr ⟨rfl, List.forall_mem_cons.mpr ⟨rfl, fun _ h => nomatch h⟩⟩⟩) (Nat.le_of_ble_eq_true rfl) ?_
  refine e_aload_n (pc := 0) d_lw_ping_0 rfl ?_
  refine e_iconst (pc := 1) d_lw_ping_1 (v := nI 0) rfl ?_
  refine e_aload_n (pc := 2) d_lw_ping_2 rfl ?_
  refine e_iload_n (pc := 3) d_lw_ping_3 rfl ?_
  refine e_callVT (pc := 4) (cc2 := 0) (ss2 := 0) (As := [.int p0]) (st := [.int (nI 0), .ref 66]) d_lw_ping_4 cv_lw_21 h1 rfl hM rfl (by decide) (Nat.le_of_ble_eq_true rfl) (by decide) (by decide) (by decide) (fun E h' N' hq => ?_) (fun rr h' N' hq => ?_)
  · obtain ⟨g1, g2, g3⟩ := hq
    rcases hr with ⟨v, hv⟩ | ⟨c, E2, hc, hE⟩
    · rw [hv] at g1; exact nomatch g1
    · rw [hE] at g1
      have g4 : E = E2 := Sum.inr.inj g1
      subst g4
      cases c with
      | zero =>
        have g5 : IAE = E := Option.some.inj hc
        subst g5
        refine ⟨12, 3, 1, hd_ping_0, Or.inr ⟨3, d_lw_ping_12, rfl, rfl⟩, by decide, ?_⟩
        refine e_iconst (pc := 13) d_lw_ping_13 (v := nI 1) rfl ?_
        exact e_iret (pc := 14) d_lw_ping_14 rfl ⟨g3, Or.inr ⟨0, _, rfl, hE, rfl, g2⟩⟩
      | succ c1 =>
        cases c1 with
        | zero =>
          have g5 : ISE = E := Option.some.inj hc
          subst g5
          refine ⟨15, 3, 1, hd_ping_1, Or.inr ⟨3, d_lw_ping_15, rfl, rfl⟩, by decide, ?_⟩
          refine e_iconst (pc := 16) d_lw_ping_16 (v := nI 2) rfl ?_
          exact e_iret (pc := 17) d_lw_ping_17 rfl ⟨g3, Or.inr ⟨1, _, rfl, hE, rfl, g2⟩⟩
        | succ c2 =>
          exact nomatch hc
  · obtain ⟨g1, g2, g3⟩ := hq
    rcases hr with ⟨v, hv⟩ | ⟨c, E2, hc, hE⟩
    · rw [hv] at g1
      have g4 : rr = some (.int v) := Sum.inl.inj g1
      subst g4
      subst g2
      have h66 : zs_put (x_h r.2) (x_R r.2) 66 = some (q_al 1 f0) := (zs_hi (by decide)).trans ho
      refine e_i2l (pc := 7) d_lw_ping_7 ?_
      refine e_last (pc := 8) d_lw_ping_8 h66 (vp_inN (by decide) (by decide)) ?_
      refine e_goto (pc := 9) (tgt := 18) d_lw_ping_9 (by decide) ?_
      refine e_iconst (pc := 18) d_lw_ping_18 (v := nI 0) rfl ?_
      exact e_iret (pc := 19) d_lw_ping_19 rfl ⟨g3, Or.inl ⟨v, _, hv, rfl, vp_updL_0, rfl⟩⟩
    · rw [hE] at g1; exact nomatch g1
set_option maxHeartbeats 1000000 in
theorem c_lw_move {l : Launch} {G : q_G} (htr : l.stackTraces = false) {H : q_H} {N : Nat} {r : zO} {fs : List Value} {f0 : Nat → Int64} {p0 : Int32} {p1 : Int32} (h1 : H 1 = some (.inr (4, fs))) (hM : q_Met l G m_zs_move 8 127 16 96 [.ref 1, .int p0, .int p1] H N (q_Z r)) (ho : x_h r.2 66 = some (q_al 1 f0)) (hr : q_Rs [IAE, ISE] r) : q_Met l G m_lw_move 9 151 16 96 [.ref 1, .int p0, .int p1, .ref 66] H N (q_W [IAE, ISE] r) := by
  refine q_Met.mkH htr (by decide +kernel) rfl (List.forall_mem_cons.mpr ⟨rfl, List.forall_mem_cons.mpr ⟨rfl, List.forall_mem_cons.mpr ⟨rfl, List.forall_mem_cons.mpr ⟨rfl, fun _ h => nomatch h⟩⟩⟩⟩) (Nat.le_of_ble_eq_true rfl) ?_
  refine e_aload_n (pc := 0) d_lw_move_0 rfl ?_
  refine e_iconst (pc := 1) d_lw_move_1 (v := nI 0) rfl ?_
  refine e_aload_n (pc := 2) d_lw_move_2 rfl ?_
  refine e_iload_n (pc := 3) d_lw_move_3 rfl ?_
  refine e_iload_n (pc := 4) d_lw_move_4 rfl ?_
  refine e_callVT (pc := 5) (cc2 := 0) (ss2 := 0) (As := [.int p0, .int p1]) (st := [.int (nI 0), .ref 66]) d_lw_move_5 cv_lw_24 h1 rfl hM rfl (by decide) (Nat.le_of_ble_eq_true rfl) (by decide) (by decide) (by decide) (fun E h' N' hq => ?_) (fun rr h' N' hq => ?_)
  · obtain ⟨g1, g2, g3⟩ := hq
    rcases hr with ⟨v, hv⟩ | ⟨c, E2, hc, hE⟩
    · rw [hv] at g1; exact nomatch g1
    · rw [hE] at g1
      have g4 : E = E2 := Sum.inr.inj g1
      subst g4
      cases c with
      | zero =>
        have g5 : IAE = E := Option.some.inj hc
        subst g5
        refine ⟨13, 4, 2, hd_move_0, Or.inl ⟨d_lw_move_13, rfl⟩, by decide, ?_⟩
        refine e_iconst (pc := 15) d_lw_move_15 (v := nI 1) rfl ?_
        exact e_iret (pc := 16) d_lw_move_16 rfl ⟨g3, Or.inr ⟨0, _, rfl, hE, rfl, g2⟩⟩
      | succ c1 =>
        cases c1 with
        | zero =>
          have g5 : ISE = E := Option.some.inj hc
          subst g5
          refine ⟨17, 4, 2, hd_move_1, Or.inl ⟨d_lw_move_17, rfl⟩, by decide, ?_⟩
          refine e_iconst (pc := 19) d_lw_move_19 (v := nI 2) rfl ?_
          exact e_iret (pc := 20) d_lw_move_20 rfl ⟨g3, Or.inr ⟨1, _, rfl, hE, rfl, g2⟩⟩
        | succ c2 =>
          exact nomatch hc
  · obtain ⟨g1, g2, g3⟩ := hq
    rcases hr with ⟨v, hv⟩ | ⟨c, E2, hc, hE⟩
    · rw [hv] at g1
      have g4 : rr = some (.int v) := Sum.inl.inj g1
      subst g4
      subst g2
      have h66 : zs_put (x_h r.2) (x_R r.2) 66 = some (q_al 1 f0) := (zs_hi (by decide)).trans ho
      refine e_i2l (pc := 8) d_lw_move_8 ?_
      refine e_last (pc := 9) d_lw_move_9 h66 (vp_inN (by decide) (by decide)) ?_
      refine e_goto (pc := 10) (tgt := 21) d_lw_move_10 (by decide) ?_
      refine e_iconst (pc := 21) d_lw_move_21 (v := nI 0) rfl ?_
      exact e_iret (pc := 22) d_lw_move_22 rfl ⟨g3, Or.inl ⟨v, _, hv, rfl, vp_updL_0, rfl⟩⟩
    · rw [hE] at g1; exact nomatch g1
set_option maxHeartbeats 1000000 in
theorem c_lw_create {l : Launch} {G : q_G} (htr : l.stackTraces = false) {H : q_H} {N : Nat} {r : zO} {fs : List Value} {f0 : Nat → Int64} {p0 : Int32} {p1 : Int32} {p2 : Int32} {p3 : Int32} (h1 : H 1 = some (.inr (4, fs))) (hM : q_Met l G m_zs_create 8 136 16 96 [.ref 1, .int p0, .int p1, .int p2, .int p3] H N (q_Z r)) (ho : x_h r.2 66 = some (q_al 1 f0)) (hr : q_Rs [IAE, ISE, NSE, UOE, IOB] r) : q_Met l G m_lw_create 9 164 16 96 [.ref 1, .int p0, .int p1, .int p2, .int p3, .ref 66] H N (q_W [IAE, ISE, NSE, UOE, IOB] r) := by
  refine q_Met.mkH htr (by decide +kernel) rfl (List.forall_mem_cons.mpr ⟨rfl, List.forall_mem_cons.mpr ⟨rfl, List.forall_mem_cons.mpr ⟨rfl, List.forall_mem_cons.mpr ⟨rfl, List.forall_mem_cons.mpr ⟨rfl, List.forall_mem_cons.mpr ⟨rfl, fun _ h => nomatch h⟩⟩⟩⟩⟩⟩) (Nat.le_of_ble_eq_true rfl) ?_
  refine e_aload (pc := 0) d_lw_create_0 rfl ?_
  refine e_iconst (pc := 2) d_lw_create_2 (v := nI 0) rfl ?_
  refine e_aload_n (pc := 3) d_lw_create_3 rfl ?_
  refine e_iload_n (pc := 4) d_lw_create_4 rfl ?_
  refine e_iload_n (pc := 5) d_lw_create_5 rfl ?_
  refine e_iload_n (pc := 6) d_lw_create_6 rfl ?_
  refine e_iload (pc := 7) d_lw_create_7 rfl ?_
  refine e_callVT (pc := 9) (cc2 := 0) (ss2 := 0) (As := [.int p0, .int p1, .int p2, .int p3]) (st := [.int (nI 0), .ref 66]) d_lw_create_9 cv_lw_28 h1 rfl hM rfl (by decide) (Nat.le_of_ble_eq_true rfl) (by decide) (by decide) (by decide) (fun E h' N' hq => ?_) (fun rr h' N' hq => ?_)
  · obtain ⟨g1, g2, g3⟩ := hq
    rcases hr with ⟨v, hv⟩ | ⟨c, E2, hc, hE⟩
    · rw [hv] at g1; exact nomatch g1
    · rw [hE] at g1
      have g4 : E = E2 := Sum.inr.inj g1
      subst g4
      cases c with
      | zero =>
        have g5 : IAE = E := Option.some.inj hc
        subst g5
        refine ⟨17, 6, 2, hd_create_0, Or.inl ⟨d_lw_create_17, rfl⟩, by decide, ?_⟩
        refine e_iconst (pc := 19) d_lw_create_19 (v := nI 1) rfl ?_
        exact e_iret (pc := 20) d_lw_create_20 rfl ⟨g3, Or.inr ⟨0, _, rfl, hE, rfl, g2⟩⟩
      | succ c1 =>
        cases c1 with
        | zero =>
          have g5 : ISE = E := Option.some.inj hc
          subst g5
          refine ⟨21, 6, 2, hd_create_1, Or.inl ⟨d_lw_create_21, rfl⟩, by decide, ?_⟩
          refine e_iconst (pc := 23) d_lw_create_23 (v := nI 2) rfl ?_
          exact e_iret (pc := 24) d_lw_create_24 rfl ⟨g3, Or.inr ⟨1, _, rfl, hE, rfl, g2⟩⟩
        | succ c2 =>
          cases c2 with
          | zero =>
            have g5 : NSE = E := Option.some.inj hc
            subst g5
            refine ⟨25, 6, 2, hd_create_2, Or.inl ⟨d_lw_create_25, rfl⟩, by decide, ?_⟩
            refine e_iconst (pc := 27) d_lw_create_27 (v := nI 3) rfl ?_
            exact e_iret (pc := 28) d_lw_create_28 rfl ⟨g3, Or.inr ⟨2, _, rfl, hE, rfl, g2⟩⟩
          | succ c3 =>
            cases c3 with
            | zero =>
              have g5 : UOE = E := Option.some.inj hc
              subst g5
              refine ⟨29, 6, 2, hd_create_3, Or.inl ⟨d_lw_create_29, rfl⟩, by decide, ?_⟩
              refine e_iconst (pc := 31) d_lw_create_31 (v := nI 4) rfl ?_
              exact e_iret (pc := 32) d_lw_create_32 rfl ⟨g3, Or.inr ⟨3, _, rfl, hE, rfl, g2⟩⟩
            | succ c4 =>
              cases c4 with
              | zero =>
                have g5 : IOB = E := Option.some.inj hc
                subst g5
                refine ⟨33, 6, 2, hd_create_4, Or.inl ⟨d_lw_create_33, rfl⟩, by decide, ?_⟩
                refine e_iconst (pc := 35) d_lw_create_35 (v := nI 5) rfl ?_
                exact e_iret (pc := 36) d_lw_create_36 rfl ⟨g3, Or.inr ⟨4, _, rfl, hE, rfl, g2⟩⟩
              | succ c5 =>
                exact nomatch hc
  · obtain ⟨g1, g2, g3⟩ := hq
    rcases hr with ⟨v, hv⟩ | ⟨c, E2, hc, hE⟩
    · rw [hv] at g1
      have g4 : rr = some (.int v) := Sum.inl.inj g1
      subst g4
      subst g2
      have h66 : zs_put (x_h r.2) (x_R r.2) 66 = some (q_al 1 f0) := (zs_hi (by decide)).trans ho
      refine e_i2l (pc := 12) d_lw_create_12 ?_
      refine e_last (pc := 13) d_lw_create_13 h66 (vp_inN (by decide) (by decide)) ?_
      refine e_goto (pc := 14) (tgt := 37) d_lw_create_14 (by decide) ?_
      refine e_iconst (pc := 37) d_lw_create_37 (v := nI 0) rfl ?_
      exact e_iret (pc := 38) d_lw_create_38 rfl ⟨g3, Or.inl ⟨v, _, hv, rfl, vp_updL_0, rfl⟩⟩
    · rw [hE] at g1; exact nomatch g1
set_option maxHeartbeats 1000000 in
theorem c_lw_set {l : Launch} {G : q_G} (htr : l.stackTraces = false) {H : q_H} {N : Nat} {r : zO} {fs : List Value} {f0 : Nat → Int64} {p0 : Int32} {p1 : Int32} {p2 : Int32} {p3 : Int32} (h1 : H 1 = some (.inr (4, fs))) (hM : q_Met l G m_zs_set 8 136 16 96 [.ref 1, .int p0, .int p1, .int p2, .int p3] H N (q_Z r)) (ho : x_h r.2 66 = some (q_al 1 f0)) (hr : q_Rs [IAE, ISE, NSE] r) : q_Met l G m_lw_set 9 160 16 96 [.ref 1, .int p0, .int p1, .int p2, .int p3, .ref 66] H N (q_W [IAE, ISE, NSE] r) := by
  refine q_Met.mkH htr (by decide +kernel) rfl (List.forall_mem_cons.mpr ⟨rfl, List.forall_mem_cons.mpr ⟨rfl, List.forall_mem_cons.mpr ⟨rfl, List.forall_mem_cons.mpr ⟨rfl, List.forall_mem_cons.mpr ⟨rfl, List.forall_mem_cons.mpr ⟨rfl, fun _ h => nomatch h⟩⟩⟩⟩⟩⟩) (Nat.le_of_ble_eq_true rfl) ?_
  refine e_aload (pc := 0) d_lw_set_0 rfl ?_
  refine e_iconst (pc := 2) d_lw_set_2 (v := nI 0) rfl ?_
  refine e_aload_n (pc := 3) d_lw_set_3 rfl ?_
  refine e_iload_n (pc := 4) d_lw_set_4 rfl ?_
  refine e_iload_n (pc := 5) d_lw_set_5 rfl ?_
  refine e_iload_n (pc := 6) d_lw_set_6 rfl ?_
  refine e_iload (pc := 7) d_lw_set_7 rfl ?_
  refine e_callVT (pc := 9) (cc2 := 0) (ss2 := 0) (As := [.int p0, .int p1, .int p2, .int p3]) (st := [.int (nI 0), .ref 66]) d_lw_set_9 cv_lw_38 h1 rfl hM rfl (by decide) (Nat.le_of_ble_eq_true rfl) (by decide) (by decide) (by decide) (fun E h' N' hq => ?_) (fun rr h' N' hq => ?_)
  · obtain ⟨g1, g2, g3⟩ := hq
    rcases hr with ⟨v, hv⟩ | ⟨c, E2, hc, hE⟩
    · rw [hv] at g1; exact nomatch g1
    · rw [hE] at g1
      have g4 : E = E2 := Sum.inr.inj g1
      subst g4
      cases c with
      | zero =>
        have g5 : IAE = E := Option.some.inj hc
        subst g5
        refine ⟨17, 6, 2, hd_set_0, Or.inl ⟨d_lw_set_17, rfl⟩, by decide, ?_⟩
        refine e_iconst (pc := 19) d_lw_set_19 (v := nI 1) rfl ?_
        exact e_iret (pc := 20) d_lw_set_20 rfl ⟨g3, Or.inr ⟨0, _, rfl, hE, rfl, g2⟩⟩
      | succ c1 =>
        cases c1 with
        | zero =>
          have g5 : ISE = E := Option.some.inj hc
          subst g5
          refine ⟨21, 6, 2, hd_set_1, Or.inl ⟨d_lw_set_21, rfl⟩, by decide, ?_⟩
          refine e_iconst (pc := 23) d_lw_set_23 (v := nI 2) rfl ?_
          exact e_iret (pc := 24) d_lw_set_24 rfl ⟨g3, Or.inr ⟨1, _, rfl, hE, rfl, g2⟩⟩
        | succ c2 =>
          cases c2 with
          | zero =>
            have g5 : NSE = E := Option.some.inj hc
            subst g5
            refine ⟨25, 6, 2, hd_set_2, Or.inl ⟨d_lw_set_25, rfl⟩, by decide, ?_⟩
            refine e_iconst (pc := 27) d_lw_set_27 (v := nI 3) rfl ?_
            exact e_iret (pc := 28) d_lw_set_28 rfl ⟨g3, Or.inr ⟨2, _, rfl, hE, rfl, g2⟩⟩
          | succ c3 =>
            exact nomatch hc
  · obtain ⟨g1, g2, g3⟩ := hq
    rcases hr with ⟨v, hv⟩ | ⟨c, E2, hc, hE⟩
    · rw [hv] at g1
      have g4 : rr = some (.int v) := Sum.inl.inj g1
      subst g4
      subst g2
      have h66 : zs_put (x_h r.2) (x_R r.2) 66 = some (q_al 1 f0) := (zs_hi (by decide)).trans ho
      refine e_i2l (pc := 12) d_lw_set_12 ?_
      refine e_last (pc := 13) d_lw_set_13 h66 (vp_inN (by decide) (by decide)) ?_
      refine e_goto (pc := 14) (tgt := 29) d_lw_set_14 (by decide) ?_
      refine e_iconst (pc := 29) d_lw_set_29 (v := nI 0) rfl ?_
      exact e_iret (pc := 30) d_lw_set_30 rfl ⟨g3, Or.inl ⟨v, _, hv, rfl, vp_updL_0, rfl⟩⟩
    · rw [hE] at g1; exact nomatch g1
set_option maxHeartbeats 1000000 in
theorem c_lw_delete {l : Launch} {G : q_G} (htr : l.stackTraces = false) {H : q_H} {N : Nat} {r : zO} {fs : List Value} {f0 : Nat → Int64} {p0 : Int32} {p1 : Int32} {p2 : Int32} (h1 : H 1 = some (.inr (4, fs))) (hM : q_Met l G m_zs_delete 8 136 16 96 [.ref 1, .int p0, .int p1, .int p2] H N (q_Z r)) (ho : x_h r.2 66 = some (q_al 1 f0)) (hr : q_Rs [IAE, ISE, NSE, UOE] r) : q_Met l G m_lw_delete 9 160 16 96 [.ref 1, .int p0, .int p1, .int p2, .ref 66] H N (q_W [IAE, ISE, NSE, UOE] r) := by
  refine q_Met.mkH htr (by decide +kernel) rfl (List.forall_mem_cons.mpr ⟨rfl, List.forall_mem_cons.mpr ⟨rfl, List.forall_mem_cons.mpr ⟨rfl, List.forall_mem_cons.mpr ⟨rfl, List.forall_mem_cons.mpr ⟨rfl, fun _ h => nomatch h⟩⟩⟩⟩⟩) (Nat.le_of_ble_eq_true rfl) ?_
  refine e_aload (pc := 0) d_lw_delete_0 rfl ?_
  refine e_iconst (pc := 2) d_lw_delete_2 (v := nI 0) rfl ?_
  refine e_aload_n (pc := 3) d_lw_delete_3 rfl ?_
  refine e_iload_n (pc := 4) d_lw_delete_4 rfl ?_
  refine e_iload_n (pc := 5) d_lw_delete_5 rfl ?_
  refine e_iload_n (pc := 6) d_lw_delete_6 rfl ?_
  refine e_callVT (pc := 7) (cc2 := 0) (ss2 := 0) (As := [.int p0, .int p1, .int p2]) (st := [.int (nI 0), .ref 66]) d_lw_delete_7 cv_lw_41 h1 rfl hM rfl (by decide) (Nat.le_of_ble_eq_true rfl) (by decide) (by decide) (by decide) (fun E h' N' hq => ?_) (fun rr h' N' hq => ?_)
  · obtain ⟨g1, g2, g3⟩ := hq
    rcases hr with ⟨v, hv⟩ | ⟨c, E2, hc, hE⟩
    · rw [hv] at g1; exact nomatch g1
    · rw [hE] at g1
      have g4 : E = E2 := Sum.inr.inj g1
      subst g4
      cases c with
      | zero =>
        have g5 : IAE = E := Option.some.inj hc
        subst g5
        refine ⟨15, 5, 2, hd_delete_0, Or.inl ⟨d_lw_delete_15, rfl⟩, by decide, ?_⟩
        refine e_iconst (pc := 17) d_lw_delete_17 (v := nI 1) rfl ?_
        exact e_iret (pc := 18) d_lw_delete_18 rfl ⟨g3, Or.inr ⟨0, _, rfl, hE, rfl, g2⟩⟩
      | succ c1 =>
        cases c1 with
        | zero =>
          have g5 : ISE = E := Option.some.inj hc
          subst g5
          refine ⟨19, 5, 2, hd_delete_1, Or.inl ⟨d_lw_delete_19, rfl⟩, by decide, ?_⟩
          refine e_iconst (pc := 21) d_lw_delete_21 (v := nI 2) rfl ?_
          exact e_iret (pc := 22) d_lw_delete_22 rfl ⟨g3, Or.inr ⟨1, _, rfl, hE, rfl, g2⟩⟩
        | succ c2 =>
          cases c2 with
          | zero =>
            have g5 : NSE = E := Option.some.inj hc
            subst g5
            refine ⟨23, 5, 2, hd_delete_2, Or.inl ⟨d_lw_delete_23, rfl⟩, by decide, ?_⟩
            refine e_iconst (pc := 25) d_lw_delete_25 (v := nI 3) rfl ?_
            exact e_iret (pc := 26) d_lw_delete_26 rfl ⟨g3, Or.inr ⟨2, _, rfl, hE, rfl, g2⟩⟩
          | succ c3 =>
            cases c3 with
            | zero =>
              have g5 : UOE = E := Option.some.inj hc
              subst g5
              refine ⟨27, 5, 2, hd_delete_3, Or.inl ⟨d_lw_delete_27, rfl⟩, by decide, ?_⟩
              refine e_iconst (pc := 29) d_lw_delete_29 (v := nI 4) rfl ?_
              exact e_iret (pc := 30) d_lw_delete_30 rfl ⟨g3, Or.inr ⟨3, _, rfl, hE, rfl, g2⟩⟩
            | succ c4 =>
              exact nomatch hc
  · obtain ⟨g1, g2, g3⟩ := hq
    rcases hr with ⟨v, hv⟩ | ⟨c, E2, hc, hE⟩
    · rw [hv] at g1
      have g4 : rr = some (.int v) := Sum.inl.inj g1
      subst g4
      subst g2
      have h66 : zs_put (x_h r.2) (x_R r.2) 66 = some (q_al 1 f0) := (zs_hi (by decide)).trans ho
      refine e_i2l (pc := 10) d_lw_delete_10 ?_
      refine e_last (pc := 11) d_lw_delete_11 h66 (vp_inN (by decide) (by decide)) ?_
      refine e_goto (pc := 12) (tgt := 31) d_lw_delete_12 (by decide) ?_
      refine e_iconst (pc := 31) d_lw_delete_31 (v := nI 0) rfl ?_
      exact e_iret (pc := 32) d_lw_delete_32 rfl ⟨g3, Or.inl ⟨v, _, hv, rfl, vp_updL_0, rfl⟩⟩
    · rw [hE] at g1; exact nomatch g1
set_option maxHeartbeats 1000000 in
theorem c_lw_get {l : Launch} {G : q_G} (htr : l.stackTraces = false) {H : q_H} {N : Nat} {r : zO} {fs : List Value} {f0 : Nat → Int64} {p0 : Int32} {p1 : Int32} {p2 : Bool} (h1 : H 1 = some (.inr (4, fs))) (hM : q_Met l G m_zs_get 8 127 16 96 [.ref 1, .int p0, .int p1, .int (bI p2)] H N (q_Z r)) (ho : x_h r.2 66 = some (q_al 1 f0)) (hr : q_Rs [IAE, ISE, NSE] r) : q_Met l G m_lw_get 9 151 16 96 [.ref 1, .int p0, .int p1, .int (bI p2), .ref 66] H N (q_W [IAE, ISE, NSE] r) := by
  refine q_Met.mkH htr (by decide +kernel) rfl (List.forall_mem_cons.mpr ⟨rfl, List.forall_mem_cons.mpr ⟨rfl, List.forall_mem_cons.mpr ⟨rfl, List.forall_mem_cons.mpr ⟨rfl, List.forall_mem_cons.mpr ⟨rfl, fun _ h => nomatch h⟩⟩⟩⟩⟩) (Nat.le_of_ble_eq_true rfl) ?_
  refine e_aload (pc := 0) d_lw_get_0 rfl ?_
  refine e_iconst (pc := 2) d_lw_get_2 (v := nI 0) rfl ?_
  refine e_aload_n (pc := 3) d_lw_get_3 rfl ?_
  refine e_iload_n (pc := 4) d_lw_get_4 rfl ?_
  refine e_iload_n (pc := 5) d_lw_get_5 rfl ?_
  refine e_iload_n (pc := 6) d_lw_get_6 rfl ?_
  refine e_callVT (pc := 7) (cc2 := 0) (ss2 := 0) (As := [.int p0, .int p1, .int (bI p2)]) (st := [.int (nI 0), .ref 66]) d_lw_get_7 cv_lw_44 h1 rfl hM rfl (by decide) (Nat.le_of_ble_eq_true rfl) (by decide) (by decide) (by decide) (fun E h' N' hq => ?_) (fun rr h' N' hq => ?_)
  · obtain ⟨g1, g2, g3⟩ := hq
    rcases hr with ⟨v, hv⟩ | ⟨c, E2, hc, hE⟩
    · rw [hv] at g1; exact nomatch g1
    · rw [hE] at g1
      have g4 : E = E2 := Sum.inr.inj g1
      subst g4
      cases c with
      | zero =>
        have g5 : IAE = E := Option.some.inj hc
        subst g5
        refine ⟨15, 5, 2, hd_get_0, Or.inl ⟨d_lw_get_15, rfl⟩, by decide, ?_⟩
        refine e_iconst (pc := 17) d_lw_get_17 (v := nI 1) rfl ?_
        exact e_iret (pc := 18) d_lw_get_18 rfl ⟨g3, Or.inr ⟨0, _, rfl, hE, rfl, g2⟩⟩
      | succ c1 =>
        cases c1 with
        | zero =>
          have g5 : ISE = E := Option.some.inj hc
          subst g5
          refine ⟨19, 5, 2, hd_get_1, Or.inl ⟨d_lw_get_19, rfl⟩, by decide, ?_⟩
          refine e_iconst (pc := 21) d_lw_get_21 (v := nI 2) rfl ?_
          exact e_iret (pc := 22) d_lw_get_22 rfl ⟨g3, Or.inr ⟨1, _, rfl, hE, rfl, g2⟩⟩
        | succ c2 =>
          cases c2 with
          | zero =>
            have g5 : NSE = E := Option.some.inj hc
            subst g5
            refine ⟨23, 5, 2, hd_get_2, Or.inl ⟨d_lw_get_23, rfl⟩, by decide, ?_⟩
            refine e_iconst (pc := 25) d_lw_get_25 (v := nI 3) rfl ?_
            exact e_iret (pc := 26) d_lw_get_26 rfl ⟨g3, Or.inr ⟨2, _, rfl, hE, rfl, g2⟩⟩
          | succ c3 =>
            exact nomatch hc
  · obtain ⟨g1, g2, g3⟩ := hq
    rcases hr with ⟨v, hv⟩ | ⟨c, E2, hc, hE⟩
    · rw [hv] at g1
      have g4 : rr = some (.int v) := Sum.inl.inj g1
      subst g4
      subst g2
      have h66 : zs_put (x_h r.2) (x_R r.2) 66 = some (q_al 1 f0) := (zs_hi (by decide)).trans ho
      refine e_i2l (pc := 10) d_lw_get_10 ?_
      refine e_last (pc := 11) d_lw_get_11 h66 (vp_inN (by decide) (by decide)) ?_
      refine e_goto (pc := 12) (tgt := 27) d_lw_get_12 (by decide) ?_
      refine e_iconst (pc := 27) d_lw_get_27 (v := nI 0) rfl ?_
      exact e_iret (pc := 28) d_lw_get_28 rfl ⟨g3, Or.inl ⟨v, _, hv, rfl, vp_updL_0, rfl⟩⟩
    · rw [hE] at g1; exact nomatch g1
set_option maxHeartbeats 1000000 in
theorem c_lw_exists {l : Launch} {G : q_G} (htr : l.stackTraces = false) {H : q_H} {N : Nat} {r : zO} {fs : List Value} {f0 : Nat → Int64} {p0 : Int32} {p1 : Int32} {p2 : Bool} (h1 : H 1 = some (.inr (4, fs))) (hM : q_Met l G m_zs_exists 8 127 16 96 [.ref 1, .int p0, .int p1, .int (bI p2)] H N (q_Z r)) (ho : x_h r.2 66 = some (q_al 1 f0)) (hr : q_Rs [IAE, ISE] r) (hb : ∀ v, r.1 = zI v → ∃ b, v = bI b) : q_Met l G m_lw_exists 9 151 16 96 [.ref 1, .int p0, .int p1, .int (bI p2), .ref 66] H N (q_W [IAE, ISE] r) := by
  refine q_Met.mkH htr (by decide +kernel) rfl (List.forall_mem_cons.mpr ⟨rfl, List.forall_mem_cons.mpr ⟨rfl, List.forall_mem_cons.mpr ⟨rfl, List.forall_mem_cons.mpr ⟨rfl, List.forall_mem_cons.mpr ⟨rfl, fun _ h => nomatch h⟩⟩⟩⟩⟩) (Nat.le_of_ble_eq_true rfl) ?_
  refine e_aload (pc := 0) d_lw_exists_0 rfl ?_
  refine e_iconst (pc := 2) d_lw_exists_2 (v := nI 0) rfl ?_
  refine e_aload_n (pc := 3) d_lw_exists_3 rfl ?_
  refine e_iload_n (pc := 4) d_lw_exists_4 rfl ?_
  refine e_iload_n (pc := 5) d_lw_exists_5 rfl ?_
  refine e_iload_n (pc := 6) d_lw_exists_6 rfl ?_
  refine e_callVT (pc := 7) (cc2 := 0) (ss2 := 0) (As := [.int p0, .int p1, .int (bI p2)]) (st := [.int (nI 0), .ref 66]) d_lw_exists_7 cv_lw_48 h1 rfl hM rfl (by decide) (Nat.le_of_ble_eq_true rfl) (by decide) (by decide) (by decide) (fun E h' N' hq => ?_) (fun rr h' N' hq => ?_)
  · obtain ⟨g1, g2, g3⟩ := hq
    rcases hr with ⟨v, hv⟩ | ⟨c, E2, hc, hE⟩
    · rw [hv] at g1; exact nomatch g1
    · rw [hE] at g1
      have g4 : E = E2 := Sum.inr.inj g1
      subst g4
      cases c with
      | zero =>
        have g5 : IAE = E := Option.some.inj hc
        subst g5
        refine ⟨22, 5, 2, hd_exists_0, Or.inl ⟨d_lw_exists_22, rfl⟩, by decide, ?_⟩
        refine e_iconst (pc := 24) d_lw_exists_24 (v := nI 1) rfl ?_
        exact e_iret (pc := 25) d_lw_exists_25 rfl ⟨g3, Or.inr ⟨0, _, rfl, hE, rfl, g2⟩⟩
      | succ c1 =>
        cases c1 with
        | zero =>
          have g5 : ISE = E := Option.some.inj hc
          subst g5
          refine ⟨26, 5, 2, hd_exists_1, Or.inl ⟨d_lw_exists_26, rfl⟩, by decide, ?_⟩
          refine e_iconst (pc := 28) d_lw_exists_28 (v := nI 2) rfl ?_
          exact e_iret (pc := 29) d_lw_exists_29 rfl ⟨g3, Or.inr ⟨1, _, rfl, hE, rfl, g2⟩⟩
        | succ c2 =>
          exact nomatch hc
  · obtain ⟨g1, g2, g3⟩ := hq
    rcases hr with ⟨v, hv⟩ | ⟨c, E2, hc, hE⟩
    · rw [hv] at g1
      have g4 : rr = some (.int v) := Sum.inl.inj g1
      subst g4
      subst g2
      have h66 : zs_put (x_h r.2) (x_R r.2) 66 = some (q_al 1 f0) := (zs_hi (by decide)).trans ho
      obtain ⟨b, rfl⟩ := hb v hv
      have K : ∀ y : Int64, y = (bI b).toInt64 → q_Ev l G m_lw_exists 9 151 0 0 18 (q_in0 [.ref 1, .int p0, .int p1, .int (bI p2), .ref 66] 6) (.long y :: [.int (nI 0), .ref 66]) (zs_put (x_h r.2) (x_R r.2)) N' (q_W [IAE, ISE] r) := by
        intro y hy
        refine e_last (pc := 18) d_lw_exists_18 h66 (vp_inN (by decide) (by decide)) ?_
        refine e_goto (pc := 19) (tgt := 30) d_lw_exists_19 (by decide) ?_
        refine e_iconst (pc := 30) d_lw_exists_30 (v := nI 0) rfl ?_
        exact e_iret (pc := 31) d_lw_exists_31 rfl ⟨g3, Or.inl ⟨bI b, _, hv, rfl, vp_updL_0.trans hy, rfl⟩⟩
      refine e_ifB_eq (pc := 10) (tgt := 17) d_lw_exists_10 (by decide) (fun z => ?_) (fun z => ?_)
      · refine e_lconst (pc := 17) d_lw_exists_17 (v := 0) rfl ?_
        exact K 0 (by rw [z]; rfl)
      · refine e_lconst (pc := 13) d_lw_exists_13 (v := 1) rfl ?_
        refine e_goto (pc := 14) (tgt := 18) d_lw_exists_14 (by decide) ?_
        exact K 1 (by rw [z]; rfl)
    · rw [hE] at g1; exact nomatch g1
set_option maxHeartbeats 1000000 in
theorem c_lw_children {l : Launch} {G : q_G} (htr : l.stackTraces = false) {H : q_H} {N : Nat} {r : zO} {fs : List Value} {f0 : Nat → Int64} {p0 : Int32} {p1 : Int32} {p2 : Bool} (h1 : H 1 = some (.inr (4, fs))) (hM : q_Met l G m_zs_children 8 127 16 96 [.ref 1, .int p0, .int p1, .int (bI p2)] H N (q_Z r)) (ho : x_h r.2 66 = some (q_al 1 f0)) (hr : q_Rs [IAE, ISE, NSE] r) : q_Met l G m_lw_children 9 151 16 96 [.ref 1, .int p0, .int p1, .int (bI p2), .ref 66] H N (q_W [IAE, ISE, NSE] r) := by
  refine q_Met.mkH htr (by decide +kernel) rfl (List.forall_mem_cons.mpr ⟨rfl, List.forall_mem_cons.mpr ⟨rfl, List.forall_mem_cons.mpr ⟨rfl, List.forall_mem_cons.mpr ⟨rfl, List.forall_mem_cons.mpr ⟨rfl, fun _ h => nomatch h⟩⟩⟩⟩⟩) (Nat.le_of_ble_eq_true rfl) ?_
  refine e_aload (pc := 0) d_lw_children_0 rfl ?_
  refine e_iconst (pc := 2) d_lw_children_2 (v := nI 0) rfl ?_
  refine e_aload_n (pc := 3) d_lw_children_3 rfl ?_
  refine e_iload_n (pc := 4) d_lw_children_4 rfl ?_
  refine e_iload_n (pc := 5) d_lw_children_5 rfl ?_
  refine e_iload_n (pc := 6) d_lw_children_6 rfl ?_
  refine e_callVT (pc := 7) (cc2 := 0) (ss2 := 0) (As := [.int p0, .int p1, .int (bI p2)]) (st := [.int (nI 0), .ref 66]) d_lw_children_7 cv_lw_52 h1 rfl hM rfl (by decide) (Nat.le_of_ble_eq_true rfl) (by decide) (by decide) (by decide) (fun E h' N' hq => ?_) (fun rr h' N' hq => ?_)
  · obtain ⟨g1, g2, g3⟩ := hq
    rcases hr with ⟨v, hv⟩ | ⟨c, E2, hc, hE⟩
    · rw [hv] at g1; exact nomatch g1
    · rw [hE] at g1
      have g4 : E = E2 := Sum.inr.inj g1
      subst g4
      cases c with
      | zero =>
        have g5 : IAE = E := Option.some.inj hc
        subst g5
        refine ⟨15, 5, 2, hd_children_0, Or.inl ⟨d_lw_children_15, rfl⟩, by decide, ?_⟩
        refine e_iconst (pc := 17) d_lw_children_17 (v := nI 1) rfl ?_
        exact e_iret (pc := 18) d_lw_children_18 rfl ⟨g3, Or.inr ⟨0, _, rfl, hE, rfl, g2⟩⟩
      | succ c1 =>
        cases c1 with
        | zero =>
          have g5 : ISE = E := Option.some.inj hc
          subst g5
          refine ⟨19, 5, 2, hd_children_1, Or.inl ⟨d_lw_children_19, rfl⟩, by decide, ?_⟩
          refine e_iconst (pc := 21) d_lw_children_21 (v := nI 2) rfl ?_
          exact e_iret (pc := 22) d_lw_children_22 rfl ⟨g3, Or.inr ⟨1, _, rfl, hE, rfl, g2⟩⟩
        | succ c2 =>
          cases c2 with
          | zero =>
            have g5 : NSE = E := Option.some.inj hc
            subst g5
            refine ⟨23, 5, 2, hd_children_2, Or.inl ⟨d_lw_children_23, rfl⟩, by decide, ?_⟩
            refine e_iconst (pc := 25) d_lw_children_25 (v := nI 3) rfl ?_
            exact e_iret (pc := 26) d_lw_children_26 rfl ⟨g3, Or.inr ⟨2, _, rfl, hE, rfl, g2⟩⟩
          | succ c3 =>
            exact nomatch hc
  · obtain ⟨g1, g2, g3⟩ := hq
    rcases hr with ⟨v, hv⟩ | ⟨c, E2, hc, hE⟩
    · rw [hv] at g1
      have g4 : rr = some (.int v) := Sum.inl.inj g1
      subst g4
      subst g2
      have h66 : zs_put (x_h r.2) (x_R r.2) 66 = some (q_al 1 f0) := (zs_hi (by decide)).trans ho
      refine e_i2l (pc := 10) d_lw_children_10 ?_
      refine e_last (pc := 11) d_lw_children_11 h66 (vp_inN (by decide) (by decide)) ?_
      refine e_goto (pc := 12) (tgt := 27) d_lw_children_12 (by decide) ?_
      refine e_iconst (pc := 27) d_lw_children_27 (v := nI 0) rfl ?_
      exact e_iret (pc := 28) d_lw_children_28 rfl ⟨g3, Or.inl ⟨v, _, hv, rfl, vp_updL_0, rfl⟩⟩
    · rw [hE] at g1; exact nomatch g1
set_option maxHeartbeats 1000000 in
theorem c_lw_fact {l : Launch} {G : q_G} (htr : l.stackTraces = false) {H : q_H} {N : Nat} {r : zO} {fs : List Value} {f0 : Nat → Int64} {p0 : Int32} {p1 : Int32} {p2 : Int32} (h1 : H 1 = some (.inr (4, fs))) (hM : q_Met l G m_zs_fact 8 127 16 96 [.ref 1, .int p0, .int p1, .int p2] H N (q_Z r)) (ho : x_h r.2 66 = some (q_al 1 f0)) (hr : q_Rs [IAE, ISE, NSE] r) : q_Met l G m_lw_fact 9 151 16 96 [.ref 1, .int p0, .int p1, .int p2, .ref 66] H N (q_W [IAE, ISE, NSE] r) := by
  refine q_Met.mkH htr (by decide +kernel) rfl (List.forall_mem_cons.mpr ⟨rfl, List.forall_mem_cons.mpr ⟨rfl, List.forall_mem_cons.mpr ⟨rfl, List.forall_mem_cons.mpr ⟨rfl, List.forall_mem_cons.mpr ⟨rfl, fun _ h => nomatch h⟩⟩⟩⟩⟩) (Nat.le_of_ble_eq_true rfl) ?_
  refine e_aload (pc := 0) d_lw_fact_0 rfl ?_
  refine e_iconst (pc := 2) d_lw_fact_2 (v := nI 0) rfl ?_
  refine e_aload_n (pc := 3) d_lw_fact_3 rfl ?_
  refine e_iload_n (pc := 4) d_lw_fact_4 rfl ?_
  refine e_iload_n (pc := 5) d_lw_fact_5 rfl ?_
  refine e_iload_n (pc := 6) d_lw_fact_6 rfl ?_
  refine e_callVT (pc := 7) (cc2 := 0) (ss2 := 0) (As := [.int p0, .int p1, .int p2]) (st := [.int (nI 0), .ref 66]) d_lw_fact_7 cv_lw_55 h1 rfl hM rfl (by decide) (Nat.le_of_ble_eq_true rfl) (by decide) (by decide) (by decide) (fun E h' N' hq => ?_) (fun rr h' N' hq => ?_)
  · obtain ⟨g1, g2, g3⟩ := hq
    rcases hr with ⟨v, hv⟩ | ⟨c, E2, hc, hE⟩
    · rw [hv] at g1; exact nomatch g1
    · rw [hE] at g1
      have g4 : E = E2 := Sum.inr.inj g1
      subst g4
      cases c with
      | zero =>
        have g5 : IAE = E := Option.some.inj hc
        subst g5
        refine ⟨15, 5, 2, hd_fact_0, Or.inl ⟨d_lw_fact_15, rfl⟩, by decide, ?_⟩
        refine e_iconst (pc := 17) d_lw_fact_17 (v := nI 1) rfl ?_
        exact e_iret (pc := 18) d_lw_fact_18 rfl ⟨g3, Or.inr ⟨0, _, rfl, hE, rfl, g2⟩⟩
      | succ c1 =>
        cases c1 with
        | zero =>
          have g5 : ISE = E := Option.some.inj hc
          subst g5
          refine ⟨19, 5, 2, hd_fact_1, Or.inl ⟨d_lw_fact_19, rfl⟩, by decide, ?_⟩
          refine e_iconst (pc := 21) d_lw_fact_21 (v := nI 2) rfl ?_
          exact e_iret (pc := 22) d_lw_fact_22 rfl ⟨g3, Or.inr ⟨1, _, rfl, hE, rfl, g2⟩⟩
        | succ c2 =>
          cases c2 with
          | zero =>
            have g5 : NSE = E := Option.some.inj hc
            subst g5
            refine ⟨23, 5, 2, hd_fact_2, Or.inl ⟨d_lw_fact_23, rfl⟩, by decide, ?_⟩
            refine e_iconst (pc := 25) d_lw_fact_25 (v := nI 3) rfl ?_
            exact e_iret (pc := 26) d_lw_fact_26 rfl ⟨g3, Or.inr ⟨2, _, rfl, hE, rfl, g2⟩⟩
          | succ c3 =>
            exact nomatch hc
  · obtain ⟨g1, g2, g3⟩ := hq
    rcases hr with ⟨v, hv⟩ | ⟨c, E2, hc, hE⟩
    · rw [hv] at g1
      have g4 : rr = some (.int v) := Sum.inl.inj g1
      subst g4
      subst g2
      have h66 : zs_put (x_h r.2) (x_R r.2) 66 = some (q_al 1 f0) := (zs_hi (by decide)).trans ho
      refine e_i2l (pc := 10) d_lw_fact_10 ?_
      refine e_last (pc := 11) d_lw_fact_11 h66 (vp_inN (by decide) (by decide)) ?_
      refine e_goto (pc := 12) (tgt := 27) d_lw_fact_12 (by decide) ?_
      refine e_iconst (pc := 27) d_lw_fact_27 (v := nI 0) rfl ?_
      exact e_iret (pc := 28) d_lw_fact_28 rfl ⟨g3, Or.inl ⟨v, _, hv, rfl, vp_updL_0, rfl⟩⟩
    · rw [hE] at g1; exact nomatch g1
set_option maxHeartbeats 1000000 in
theorem c_lw_event {l : Launch} {G : q_G} (htr : l.stackTraces = false) {H : q_H} {N : Nat} {r : zO} {fs : List Value} {f0 : Nat → Int64} {p0 : Int32} (h1 : H 1 = some (.inr (4, fs))) (hM : q_Met l G m_zs_event 8 127 16 96 [.ref 1, .int p0] H N (q_Z r)) (ho : x_h r.2 66 = some (q_al 1 f0)) (hr : q_Rs [IAE, ISE, NSE] r) : q_Met l G m_lw_event 9 148 16 96 [.ref 1, .int p0, .ref 66] H N (q_W [IAE, ISE, NSE] r) := by
  refine q_Met.mkH htr (by decide +kernel) rfl (List.forall_mem_cons.mpr ⟨rfl, List.forall_mem_cons.mpr ⟨rfl, List.forall_mem_cons.mpr ⟨rfl, fun _ h => nomatch h⟩⟩⟩) (Nat.le_of_ble_eq_true rfl) ?_
  refine e_aload_n (pc := 0) d_lw_event_0 rfl ?_
  refine e_iconst (pc := 1) d_lw_event_1 (v := nI 0) rfl ?_
  refine e_aload_n (pc := 2) d_lw_event_2 rfl ?_
  refine e_iload_n (pc := 3) d_lw_event_3 rfl ?_
  refine e_callVT (pc := 4) (cc2 := 0) (ss2 := 0) (As := [.int p0]) (st := [.int (nI 0), .ref 66]) d_lw_event_4 cv_lw_58 h1 rfl hM rfl (by decide) (Nat.le_of_ble_eq_true rfl) (by decide) (by decide) (by decide) (fun E h' N' hq => ?_) (fun rr h' N' hq => ?_)
  · obtain ⟨g1, g2, g3⟩ := hq
    rcases hr with ⟨v, hv⟩ | ⟨c, E2, hc, hE⟩
    · rw [hv] at g1; exact nomatch g1
    · rw [hE] at g1
      have g4 : E = E2 := Sum.inr.inj g1
      subst g4
      cases c with
      | zero =>
        have g5 : IAE = E := Option.some.inj hc
        subst g5
        refine ⟨12, 3, 1, hd_event_0, Or.inr ⟨3, d_lw_event_12, rfl, rfl⟩, by decide, ?_⟩
        refine e_iconst (pc := 13) d_lw_event_13 (v := nI 1) rfl ?_
        exact e_iret (pc := 14) d_lw_event_14 rfl ⟨g3, Or.inr ⟨0, _, rfl, hE, rfl, g2⟩⟩
      | succ c1 =>
        cases c1 with
        | zero =>
          have g5 : ISE = E := Option.some.inj hc
          subst g5
          refine ⟨15, 3, 1, hd_event_1, Or.inr ⟨3, d_lw_event_15, rfl, rfl⟩, by decide, ?_⟩
          refine e_iconst (pc := 16) d_lw_event_16 (v := nI 2) rfl ?_
          exact e_iret (pc := 17) d_lw_event_17 rfl ⟨g3, Or.inr ⟨1, _, rfl, hE, rfl, g2⟩⟩
        | succ c2 =>
          cases c2 with
          | zero =>
            have g5 : NSE = E := Option.some.inj hc
            subst g5
            refine ⟨18, 3, 1, hd_event_2, Or.inr ⟨3, d_lw_event_18, rfl, rfl⟩, by decide, ?_⟩
            refine e_iconst (pc := 19) d_lw_event_19 (v := nI 3) rfl ?_
            exact e_iret (pc := 20) d_lw_event_20 rfl ⟨g3, Or.inr ⟨2, _, rfl, hE, rfl, g2⟩⟩
          | succ c3 =>
            exact nomatch hc
  · obtain ⟨g1, g2, g3⟩ := hq
    rcases hr with ⟨v, hv⟩ | ⟨c, E2, hc, hE⟩
    · rw [hv] at g1
      have g4 : rr = some (.int v) := Sum.inl.inj g1
      subst g4
      subst g2
      have h66 : zs_put (x_h r.2) (x_R r.2) 66 = some (q_al 1 f0) := (zs_hi (by decide)).trans ho
      refine e_i2l (pc := 7) d_lw_event_7 ?_
      refine e_last (pc := 8) d_lw_event_8 h66 (vp_inN (by decide) (by decide)) ?_
      refine e_goto (pc := 9) (tgt := 21) d_lw_event_9 (by decide) ?_
      refine e_iconst (pc := 21) d_lw_event_21 (v := nI 0) rfl ?_
      exact e_iret (pc := 22) d_lw_event_22 rfl ⟨g3, Or.inl ⟨v, _, hv, rfl, vp_updL_0, rfl⟩⟩
    · rw [hE] at g1; exact nomatch g1
set_option maxHeartbeats 1000000 in
theorem c_lw_crash {l : Launch} {G : q_G} (htr : l.stackTraces = false) {H : q_H} {N : Nat} {r : zO} {fs : List Value} {f0 : Nat → Int64} {p0 : Int32} (h1 : H 1 = some (.inr (4, fs))) (hM : q_Met l G m_zs_crash 8 127 16 96 [.ref 1, .int p0] H N (q_Z r)) (ho : x_h r.2 66 = some (q_al 1 f0)) (hr : q_Rs [IAE, ISE] r) : q_Met l G m_lw_crash 9 150 16 96 [.ref 1, .int p0, .ref 66] H N (q_W [IAE, ISE] r) := by
  refine q_Met.mkH htr (by decide +kernel) rfl (List.forall_mem_cons.mpr ⟨rfl, List.forall_mem_cons.mpr ⟨rfl, List.forall_mem_cons.mpr ⟨rfl, fun _ h => nomatch h⟩⟩⟩) (Nat.le_of_ble_eq_true rfl) ?_
  refine e_aload_n (pc := 0) d_lw_crash_0 rfl ?_
  refine e_iconst (pc := 1) d_lw_crash_1 (v := nI 0) rfl ?_
  refine e_aload_n (pc := 2) d_lw_crash_2 rfl ?_
  refine e_iload_n (pc := 3) d_lw_crash_3 rfl ?_
  refine e_callVT (pc := 4) (cc2 := 0) (ss2 := 0) (As := [.int p0]) (st := [.int (nI 0), .ref 66]) d_lw_crash_4 cv_lw_61 h1 rfl hM rfl (by decide) (Nat.le_of_ble_eq_true rfl) (by decide) (by decide) (by decide) (fun E h' N' hq => ?_) (fun rr h' N' hq => ?_)
  · obtain ⟨g1, g2, g3⟩ := hq
    rcases hr with ⟨v, hv⟩ | ⟨c, E2, hc, hE⟩
    · rw [hv] at g1; exact nomatch g1
    · rw [hE] at g1
      have g4 : E = E2 := Sum.inr.inj g1
      subst g4
      cases c with
      | zero =>
        have g5 : IAE = E := Option.some.inj hc
        subst g5
        refine ⟨12, 3, 1, hd_crash_0, Or.inr ⟨3, d_lw_crash_12, rfl, rfl⟩, by decide, ?_⟩
        refine e_iconst (pc := 13) d_lw_crash_13 (v := nI 1) rfl ?_
        exact e_iret (pc := 14) d_lw_crash_14 rfl ⟨g3, Or.inr ⟨0, _, rfl, hE, rfl, g2⟩⟩
      | succ c1 =>
        cases c1 with
        | zero =>
          have g5 : ISE = E := Option.some.inj hc
          subst g5
          refine ⟨15, 3, 1, hd_crash_1, Or.inr ⟨3, d_lw_crash_15, rfl, rfl⟩, by decide, ?_⟩
          refine e_iconst (pc := 16) d_lw_crash_16 (v := nI 2) rfl ?_
          exact e_iret (pc := 17) d_lw_crash_17 rfl ⟨g3, Or.inr ⟨1, _, rfl, hE, rfl, g2⟩⟩
        | succ c2 =>
          exact nomatch hc
  · obtain ⟨g1, g2, g3⟩ := hq
    rcases hr with ⟨v, hv⟩ | ⟨c, E2, hc, hE⟩
    · rw [hv] at g1
      have g4 : rr = some (.int v) := Sum.inl.inj g1
      subst g4
      subst g2
      have h66 : zs_put (x_h r.2) (x_R r.2) 66 = some (q_al 1 f0) := (zs_hi (by decide)).trans ho
      refine e_i2l (pc := 7) d_lw_crash_7 ?_
      refine e_last (pc := 8) d_lw_crash_8 h66 (vp_inN (by decide) (by decide)) ?_
      refine e_goto (pc := 9) (tgt := 18) d_lw_crash_9 (by decide) ?_
      refine e_iconst (pc := 18) d_lw_crash_18 (v := nI 0) rfl ?_
      exact e_iret (pc := 19) d_lw_crash_19 rfl ⟨g3, Or.inl ⟨v, _, hv, rfl, vp_updL_0, rfl⟩⟩
    · rw [hE] at g1; exact nomatch g1
set_option maxHeartbeats 1000000 in
theorem c_lw_restart {l : Launch} {G : q_G} (htr : l.stackTraces = false) {H : q_H} {N : Nat} {r : zO} {fs : List Value} {f0 : Nat → Int64} {p0 : Int32} (h1 : H 1 = some (.inr (4, fs))) (hM : q_Met l G m_zs_restart 8 136 16 96 [.ref 1, .int p0] H N (q_Z r)) (ho : x_h r.2 66 = some (q_al 1 f0)) (hr : q_Rs [IAE, ISE] r) : q_Met l G m_lw_restart 9 159 16 96 [.ref 1, .int p0, .ref 66] H N (q_W [IAE, ISE] r) := by
  refine q_Met.mkH htr (by decide +kernel) rfl (List.forall_mem_cons.mpr ⟨rfl, List.forall_mem_cons.mpr ⟨rfl, List.forall_mem_cons.mpr ⟨rfl, fun _ h => nomatch h⟩⟩⟩) (Nat.le_of_ble_eq_true rfl) ?_
  refine e_aload_n (pc := 0) d_lw_restart_0 rfl ?_
  refine e_iconst (pc := 1) d_lw_restart_1 (v := nI 0) rfl ?_
  refine e_aload_n (pc := 2) d_lw_restart_2 rfl ?_
  refine e_iload_n (pc := 3) d_lw_restart_3 rfl ?_
  refine e_callVT (pc := 4) (cc2 := 0) (ss2 := 0) (As := [.int p0]) (st := [.int (nI 0), .ref 66]) d_lw_restart_4 cv_lw_64 h1 rfl hM rfl (by decide) (Nat.le_of_ble_eq_true rfl) (by decide) (by decide) (by decide) (fun E h' N' hq => ?_) (fun rr h' N' hq => ?_)
  · obtain ⟨g1, g2, g3⟩ := hq
    rcases hr with ⟨v, hv⟩ | ⟨c, E2, hc, hE⟩
    · rw [hv] at g1; exact nomatch g1
    · rw [hE] at g1
      have g4 : E = E2 := Sum.inr.inj g1
      subst g4
      cases c with
      | zero =>
        have g5 : IAE = E := Option.some.inj hc
        subst g5
        refine ⟨12, 3, 1, hd_restart_0, Or.inr ⟨3, d_lw_restart_12, rfl, rfl⟩, by decide, ?_⟩
        refine e_iconst (pc := 13) d_lw_restart_13 (v := nI 1) rfl ?_
        exact e_iret (pc := 14) d_lw_restart_14 rfl ⟨g3, Or.inr ⟨0, _, rfl, hE, rfl, g2⟩⟩
      | succ c1 =>
        cases c1 with
        | zero =>
          have g5 : ISE = E := Option.some.inj hc
          subst g5
          refine ⟨15, 3, 1, hd_restart_1, Or.inr ⟨3, d_lw_restart_15, rfl, rfl⟩, by decide, ?_⟩
          refine e_iconst (pc := 16) d_lw_restart_16 (v := nI 2) rfl ?_
          exact e_iret (pc := 17) d_lw_restart_17 rfl ⟨g3, Or.inr ⟨1, _, rfl, hE, rfl, g2⟩⟩
        | succ c2 =>
          exact nomatch hc
  · obtain ⟨g1, g2, g3⟩ := hq
    rcases hr with ⟨v, hv⟩ | ⟨c, E2, hc, hE⟩
    · rw [hv] at g1
      have g4 : rr = some (.int v) := Sum.inl.inj g1
      subst g4
      subst g2
      have h66 : zs_put (x_h r.2) (x_R r.2) 66 = some (q_al 1 f0) := (zs_hi (by decide)).trans ho
      refine e_i2l (pc := 7) d_lw_restart_7 ?_
      refine e_last (pc := 8) d_lw_restart_8 h66 (vp_inN (by decide) (by decide)) ?_
      refine e_goto (pc := 9) (tgt := 18) d_lw_restart_9 (by decide) ?_
      refine e_iconst (pc := 18) d_lw_restart_18 (v := nI 0) rfl ?_
      exact e_iret (pc := 19) d_lw_restart_19 rfl ⟨g3, Or.inl ⟨v, _, hv, rfl, vp_updL_0, rfl⟩⟩
    · rw [hE] at g1; exact nomatch g1
set_option maxHeartbeats 1000000 in
theorem c_lw_alone {l : Launch} {G : q_G} (htr : l.stackTraces = false) {H : q_H} {N : Nat} {r : zO} {fs : List Value} {f0 : Nat → Int64} {p0 : Int32} {p1 : Bool} (h1 : H 1 = some (.inr (4, fs))) (hM : q_Met l G m_zs_alone 8 136 16 96 [.ref 1, .int p0, .int (bI p1)] H N (q_Z r)) (ho : x_h r.2 66 = some (q_al 1 f0)) (hr : q_Rs [IAE] r) : q_Met l G m_lw_alone 9 159 16 96 [.ref 1, .int p0, .int (bI p1), .ref 66] H N (q_W [IAE] r) := by
  refine q_Met.mkH htr (by decide +kernel) rfl (List.forall_mem_cons.mpr ⟨rfl, List.forall_mem_cons.mpr ⟨rfl, List.forall_mem_cons.mpr ⟨rfl, List.forall_mem_cons.mpr ⟨rfl, fun _ h => nomatch h⟩⟩⟩⟩) (Nat.le_of_ble_eq_true rfl) ?_
  refine e_aload_n (pc := 0) d_lw_alone_0 rfl ?_
  refine e_iconst (pc := 1) d_lw_alone_1 (v := nI 0) rfl ?_
  refine e_aload_n (pc := 2) d_lw_alone_2 rfl ?_
  refine e_iload_n (pc := 3) d_lw_alone_3 rfl ?_
  refine e_iload_n (pc := 4) d_lw_alone_4 rfl ?_
  refine e_callVT (pc := 5) (cc2 := 0) (ss2 := 0) (As := [.int p0, .int (bI p1)]) (st := [.int (nI 0), .ref 66]) d_lw_alone_5 cv_lw_67 h1 rfl hM rfl (by decide) (Nat.le_of_ble_eq_true rfl) (by decide) (by decide) (by decide) (fun E h' N' hq => ?_) (fun rr h' N' hq => ?_)
  · obtain ⟨g1, g2, g3⟩ := hq
    rcases hr with ⟨v, hv⟩ | ⟨c, E2, hc, hE⟩
    · rw [hv] at g1; exact nomatch g1
    · rw [hE] at g1
      have g4 : E = E2 := Sum.inr.inj g1
      subst g4
      cases c with
      | zero =>
        have g5 : IAE = E := Option.some.inj hc
        subst g5
        refine ⟨13, 4, 2, hd_alone_0, Or.inl ⟨d_lw_alone_13, rfl⟩, by decide, ?_⟩
        refine e_iconst (pc := 15) d_lw_alone_15 (v := nI 1) rfl ?_
        exact e_iret (pc := 16) d_lw_alone_16 rfl ⟨g3, Or.inr ⟨0, _, rfl, hE, rfl, g2⟩⟩
      | succ c1 =>
        exact nomatch hc
  · obtain ⟨g1, g2, g3⟩ := hq
    rcases hr with ⟨v, hv⟩ | ⟨c, E2, hc, hE⟩
    · rw [hv] at g1
      have g4 : rr = some (.int v) := Sum.inl.inj g1
      subst g4
      subst g2
      have h66 : zs_put (x_h r.2) (x_R r.2) 66 = some (q_al 1 f0) := (zs_hi (by decide)).trans ho
      refine e_i2l (pc := 8) d_lw_alone_8 ?_
      refine e_last (pc := 9) d_lw_alone_9 h66 (vp_inN (by decide) (by decide)) ?_
      refine e_goto (pc := 10) (tgt := 17) d_lw_alone_10 (by decide) ?_
      refine e_iconst (pc := 17) d_lw_alone_17 (v := nI 0) rfl ?_
      exact e_iret (pc := 18) d_lw_alone_18 rfl ⟨g3, Or.inl ⟨v, _, hv, rfl, vp_updL_0, rfl⟩⟩
    · rw [hE] at g1; exact nomatch g1
set_option maxHeartbeats 1000000 in
theorem c_lw_elect {l : Launch} {G : q_G} (htr : l.stackTraces = false) {H : q_H} {N : Nat} {r : zO} {fs : List Value} {f0 : Nat → Int64}  (h1 : H 1 = some (.inr (4, fs))) (hM : q_Met l G m_zs_elect 6 136 16 96 [.ref 1] H N (q_Z r)) (ho : x_h r.2 66 = some (q_al 1 f0)) (hr : q_Rs [ISE] r) : q_Met l G m_lw_elect 7 159 16 96 [.ref 1, .ref 66] H N (q_W [ISE] r) := by
  refine q_Met.mkH htr (by decide +kernel) rfl (List.forall_mem_cons.mpr ⟨rfl, List.forall_mem_cons.mpr ⟨rfl, fun _ h => nomatch h⟩⟩) (Nat.le_of_ble_eq_true rfl) ?_
  refine e_aload_n (pc := 0) d_lw_elect_0 rfl ?_
  refine e_iconst (pc := 1) d_lw_elect_1 (v := nI 0) rfl ?_
  refine e_aload_n (pc := 2) d_lw_elect_2 rfl ?_
  refine e_callVT (pc := 3) (cc2 := 0) (ss2 := 0) (As := []) (st := [.int (nI 0), .ref 66]) d_lw_elect_3 cv_lw_71 h1 rfl hM rfl (by decide) (Nat.le_of_ble_eq_true rfl) (by decide) (by decide) (by decide) (fun E h' N' hq => ?_) (fun rr h' N' hq => ?_)
  · obtain ⟨g1, g2, g3⟩ := hq
    rcases hr with ⟨v, hv⟩ | ⟨c, E2, hc, hE⟩
    · rw [hv] at g1; exact nomatch g1
    · rw [hE] at g1
      have g4 : E = E2 := Sum.inr.inj g1
      subst g4
      cases c with
      | zero =>
        have g5 : ISE = E := Option.some.inj hc
        subst g5
        refine ⟨11, 2, 1, hd_elect_0, Or.inr ⟨2, d_lw_elect_11, rfl, rfl⟩, by decide, ?_⟩
        refine e_iconst (pc := 12) d_lw_elect_12 (v := nI 1) rfl ?_
        exact e_iret (pc := 13) d_lw_elect_13 rfl ⟨g3, Or.inr ⟨0, _, rfl, hE, rfl, g2⟩⟩
      | succ c1 =>
        exact nomatch hc
  · obtain ⟨g1, g2, g3⟩ := hq
    rcases hr with ⟨v, hv⟩ | ⟨c, E2, hc, hE⟩
    · rw [hv] at g1
      have g4 : rr = some (.int v) := Sum.inl.inj g1
      subst g4
      subst g2
      have h66 : zs_put (x_h r.2) (x_R r.2) 66 = some (q_al 1 f0) := (zs_hi (by decide)).trans ho
      refine e_i2l (pc := 6) d_lw_elect_6 ?_
      refine e_last (pc := 7) d_lw_elect_7 h66 (vp_inN (by decide) (by decide)) ?_
      refine e_goto (pc := 8) (tgt := 14) d_lw_elect_8 (by decide) ?_
      refine e_iconst (pc := 14) d_lw_elect_14 (v := nI 0) rfl ?_
      exact e_iret (pc := 15) d_lw_elect_15 rfl ⟨g3, Or.inl ⟨v, _, hv, rfl, vp_updL_0, rfl⟩⟩
    · rw [hE] at g1; exact nomatch g1
set_option maxHeartbeats 1000000 in
theorem c_lw_tick {l : Launch} {G : q_G} (htr : l.stackTraces = false) {H : q_H} {N : Nat} {r : zO} {fs : List Value} {f0 : Nat → Int64} {p0 : Int32} (h1 : H 1 = some (.inr (4, fs))) (hM : q_Met l G m_zs_tick 7 136 16 96 [.ref 1, .int p0] H N (q_Z r)) (ho : x_h r.2 66 = some (q_al 1 f0)) (hr : q_Rs [IAE] r) : q_Met l G m_lw_tick 8 160 16 96 [.ref 1, .int p0, .ref 66] H N (q_W [IAE] r) := by
  refine q_Met.mkH htr (by decide +kernel) rfl (List.forall_mem_cons.mpr ⟨rfl, List.forall_mem_cons.mpr ⟨rfl, List.forall_mem_cons.mpr ⟨rfl, fun _ h => nomatch h⟩⟩⟩) (Nat.le_of_ble_eq_true rfl) ?_
  refine e_aload_n (pc := 0) d_lw_tick_0 rfl ?_
  refine e_iconst (pc := 1) d_lw_tick_1 (v := nI 0) rfl ?_
  refine e_aload_n (pc := 2) d_lw_tick_2 rfl ?_
  refine e_iload_n (pc := 3) d_lw_tick_3 rfl ?_
  refine e_callVT (pc := 4) (cc2 := 0) (ss2 := 0) (As := [.int p0]) (st := [.int (nI 0), .ref 66]) d_lw_tick_4 cv_lw_75 h1 rfl hM rfl (by decide) (Nat.le_of_ble_eq_true rfl) (by decide) (by decide) (by decide) (fun E h' N' hq => ?_) (fun rr h' N' hq => ?_)
  · obtain ⟨g1, g2, g3⟩ := hq
    rcases hr with ⟨v, hv⟩ | ⟨c, E2, hc, hE⟩
    · rw [hv] at g1; exact nomatch g1
    · rw [hE] at g1
      have g4 : E = E2 := Sum.inr.inj g1
      subst g4
      cases c with
      | zero =>
        have g5 : IAE = E := Option.some.inj hc
        subst g5
        refine ⟨12, 3, 1, hd_tick_0, Or.inr ⟨3, d_lw_tick_12, rfl, rfl⟩, by decide, ?_⟩
        refine e_iconst (pc := 13) d_lw_tick_13 (v := nI 1) rfl ?_
        exact e_iret (pc := 14) d_lw_tick_14 rfl ⟨g3, Or.inr ⟨0, _, rfl, hE, rfl, g2⟩⟩
      | succ c1 =>
        exact nomatch hc
  · obtain ⟨g1, g2, g3⟩ := hq
    rcases hr with ⟨v, hv⟩ | ⟨c, E2, hc, hE⟩
    · rw [hv] at g1
      have g4 : rr = some (.int v) := Sum.inl.inj g1
      subst g4
      subst g2
      have h66 : zs_put (x_h r.2) (x_R r.2) 66 = some (q_al 1 f0) := (zs_hi (by decide)).trans ho
      refine e_i2l (pc := 7) d_lw_tick_7 ?_
      refine e_last (pc := 8) d_lw_tick_8 h66 (vp_inN (by decide) (by decide)) ?_
      refine e_goto (pc := 9) (tgt := 15) d_lw_tick_9 (by decide) ?_
      refine e_iconst (pc := 15) d_lw_tick_15 (v := nI 0) rfl ?_
      exact e_iret (pc := 16) d_lw_tick_16 rfl ⟨g3, Or.inl ⟨v, _, hv, rfl, vp_updL_0, rfl⟩⟩
    · rw [hE] at g1; exact nomatch g1
set_option maxHeartbeats 1000000 in
theorem c_lw_state {l : Launch} {G : q_G} (htr : l.stackTraces = false) {H : q_H} {N : Nat} {r : zO} {fs : List Value} {f0 : Nat → Int64} {p0 : Int32} {p1 : Int32} (h1 : H 1 = some (.inr (4, fs))) (hM : q_Met l G m_zs_state 8 127 16 96 [.ref 1, .int p0, .int p1] H N (q_Z r)) (ho : x_h r.2 66 = some (q_al 1 f0)) (hr : q_Rs [IAE] r) : q_Met l G m_lw_state 9 150 16 96 [.ref 1, .int p0, .int p1, .ref 66] H N (q_W [IAE] r) := by
  refine q_Met.mkH htr (by decide +kernel) rfl (List.forall_mem_cons.mpr ⟨rfl, List.forall_mem_cons.mpr ⟨rfl, List.forall_mem_cons.mpr ⟨rfl, List.forall_mem_cons.mpr ⟨rfl, fun _ h => nomatch h⟩⟩⟩⟩) (Nat.le_of_ble_eq_true rfl) ?_
  refine e_aload_n (pc := 0) d_lw_state_0 rfl ?_
  refine e_iconst (pc := 1) d_lw_state_1 (v := nI 0) rfl ?_
  refine e_aload_n (pc := 2) d_lw_state_2 rfl ?_
  refine e_iload_n (pc := 3) d_lw_state_3 rfl ?_
  refine e_iload_n (pc := 4) d_lw_state_4 rfl ?_
  refine e_callVT (pc := 5) (cc2 := 0) (ss2 := 0) (As := [.int p0, .int p1]) (st := [.int (nI 0), .ref 66]) d_lw_state_5 cv_lw_78 h1 rfl hM rfl (by decide) (Nat.le_of_ble_eq_true rfl) (by decide) (by decide) (by decide) (fun E h' N' hq => ?_) (fun rr h' N' hq => ?_)
  · obtain ⟨g1, g2, g3⟩ := hq
    rcases hr with ⟨v, hv⟩ | ⟨c, E2, hc, hE⟩
    · rw [hv] at g1; exact nomatch g1
    · rw [hE] at g1
      have g4 : E = E2 := Sum.inr.inj g1
      subst g4
      cases c with
      | zero =>
        have g5 : IAE = E := Option.some.inj hc
        subst g5
        refine ⟨13, 4, 2, hd_state_0, Or.inl ⟨d_lw_state_13, rfl⟩, by decide, ?_⟩
        refine e_iconst (pc := 15) d_lw_state_15 (v := nI 1) rfl ?_
        exact e_iret (pc := 16) d_lw_state_16 rfl ⟨g3, Or.inr ⟨0, _, rfl, hE, rfl, g2⟩⟩
      | succ c1 =>
        exact nomatch hc
  · obtain ⟨g1, g2, g3⟩ := hq
    rcases hr with ⟨v, hv⟩ | ⟨c, E2, hc, hE⟩
    · rw [hv] at g1
      have g4 : rr = some (.int v) := Sum.inl.inj g1
      subst g4
      subst g2
      have h66 : zs_put (x_h r.2) (x_R r.2) 66 = some (q_al 1 f0) := (zs_hi (by decide)).trans ho
      refine e_i2l (pc := 8) d_lw_state_8 ?_
      refine e_last (pc := 9) d_lw_state_9 h66 (vp_inN (by decide) (by decide)) ?_
      refine e_goto (pc := 10) (tgt := 17) d_lw_state_10 (by decide) ?_
      refine e_iconst (pc := 17) d_lw_state_17 (v := nI 0) rfl ?_
      exact e_iret (pc := 18) d_lw_state_18 rfl ⟨g3, Or.inl ⟨v, _, hv, rfl, vp_updL_0, rfl⟩⟩
    · rw [hE] at g1; exact nomatch g1
set_option maxHeartbeats 1000000 in
theorem c_lw_count {l : Launch} {G : q_G} (htr : l.stackTraces = false) {H : q_H} {N : Nat} {r : zO} {fs : List Value} {f0 : Nat → Int64} {p0 : Int32} (h1 : H 1 = some (.inr (4, fs))) (hM : q_Met l G m_zs_count 7 107 16 96 [.ref 1, .int p0] H N (q_Z r)) (ho : x_h r.2 66 = some (q_al 1 f0)) (hr : q_Rs [IAE] r) : q_Met l G m_lw_count 8 128 16 96 [.ref 1, .int p0, .ref 66] H N (q_W [IAE] r) := by
  refine q_Met.mkH htr (by decide +kernel) rfl (List.forall_mem_cons.mpr ⟨rfl, List.forall_mem_cons.mpr ⟨rfl, List.forall_mem_cons.mpr ⟨rfl, fun _ h => nomatch h⟩⟩⟩) (Nat.le_of_ble_eq_true rfl) ?_
  refine e_aload_n (pc := 0) d_lw_count_0 rfl ?_
  refine e_iconst (pc := 1) d_lw_count_1 (v := nI 0) rfl ?_
  refine e_aload_n (pc := 2) d_lw_count_2 rfl ?_
  refine e_iload_n (pc := 3) d_lw_count_3 rfl ?_
  refine e_callVT (pc := 4) (cc2 := 0) (ss2 := 0) (As := [.int p0]) (st := [.int (nI 0), .ref 66]) d_lw_count_4 cv_lw_81 h1 rfl hM rfl (by decide) (Nat.le_of_ble_eq_true rfl) (by decide) (by decide) (by decide) (fun E h' N' hq => ?_) (fun rr h' N' hq => ?_)
  · obtain ⟨g1, g2, g3⟩ := hq
    rcases hr with ⟨v, hv⟩ | ⟨c, E2, hc, hE⟩
    · rw [hv] at g1; exact nomatch g1
    · rw [hE] at g1
      have g4 : E = E2 := Sum.inr.inj g1
      subst g4
      cases c with
      | zero =>
        have g5 : IAE = E := Option.some.inj hc
        subst g5
        refine ⟨12, 3, 1, hd_count_0, Or.inr ⟨3, d_lw_count_12, rfl, rfl⟩, by decide, ?_⟩
        refine e_iconst (pc := 13) d_lw_count_13 (v := nI 1) rfl ?_
        exact e_iret (pc := 14) d_lw_count_14 rfl ⟨g3, Or.inr ⟨0, _, rfl, hE, rfl, g2⟩⟩
      | succ c1 =>
        exact nomatch hc
  · obtain ⟨g1, g2, g3⟩ := hq
    rcases hr with ⟨v, hv⟩ | ⟨c, E2, hc, hE⟩
    · rw [hv] at g1
      have g4 : rr = some (.int v) := Sum.inl.inj g1
      subst g4
      subst g2
      have h66 : zs_put (x_h r.2) (x_R r.2) 66 = some (q_al 1 f0) := (zs_hi (by decide)).trans ho
      refine e_i2l (pc := 7) d_lw_count_7 ?_
      refine e_last (pc := 8) d_lw_count_8 h66 (vp_inN (by decide) (by decide)) ?_
      refine e_goto (pc := 9) (tgt := 15) d_lw_count_9 (by decide) ?_
      refine e_iconst (pc := 15) d_lw_count_15 (v := nI 0) rfl ?_
      exact e_iret (pc := 16) d_lw_count_16 rfl ⟨g3, Or.inl ⟨v, _, hv, rfl, vp_updL_0, rfl⟩⟩
    · rw [hE] at g1; exact nomatch g1

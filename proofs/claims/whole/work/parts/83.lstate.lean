/-! THE LAW'S STATE -/
theorem zm_comm (h : q_H) (R : zR) (M : mR) : zs_put (md_put h M) R = md_put (zs_put h R) M := by
  funext a
  by_cases c : a < 42
  · rw [md_lo c]
    unfold zs_put
    rw [md_lo c]
  · rw [zs_hi (by omega)]
    unfold md_put
    rw [zs_hi (by omega)]
theorem zs_up (h : q_H) (R : zR) (a : Nat) (e : q_E) (ha : 41 < a) : q_up (zs_put h R) a e = zs_put (q_up h a e) R := by
  funext b
  by_cases c : b = a
  · subst c; rw [q_up_s, zs_hi ha, q_up_s]
  · rw [q_up_n _ c]
    unfold zs_put
    rw [q_up_n _ c]
theorem md_up (h : q_H) (M : mR) (a : Nat) (e : q_E) (ha : 65 < a) : q_up (md_put h M) a e = md_put (q_up h a e) M := by
  funext b
  by_cases c : b = a
  · subst c; rw [q_up_s, md_hi ha, q_up_s]
  · rw [q_up_n _ c]
    unfold md_put
    rw [q_up_n _ c]
theorem md_md (h : q_H) (M M' : mR) : md_put (md_put h M) M' = md_put h M' := by
  funext b
  by_cases c : b < 42
  · rw [md_lo c, md_lo c, md_lo c]
  · by_cases c2 : 65 < b
    · rw [md_hi c2, md_hi c2, md_hi c2]
    · rcases (by omega : b = 42 ∨ b = 43 ∨ b = 44 ∨ b = 45 ∨ b = 46 ∨ b = 47 ∨ b = 48 ∨ b = 49 ∨ b = 50 ∨ b = 51 ∨ b = 52 ∨ b = 53 ∨ b = 54 ∨ b = 55 ∨ b = 56 ∨ b = 57 ∨ b = 58 ∨ b = 59 ∨ b = 60 ∨ b = 61 ∨ b = 62 ∨ b = 63 ∨ b = 64 ∨ b = 65) with rfl | rfl | rfl | rfl | rfl | rfl | rfl | rfl | rfl | rfl | rfl | rfl | rfl | rfl | rfl | rfl | rfl | rfl | rfl | rfl | rfl | rfl | rfl | rfl <;> rfl
/-- the model's cells are no entries -/
theorem md_en {h : q_H} {M M' : mR} {a : Nat} {e : zE} (h1 : en_Is (md_put h M) a e) : en_Is (md_put h M') a e := by
  by_cases c : a < 42
  · unfold en_Is en_At at h1 ⊢
    rw [md_lo c] at h1 ⊢
    exact h1
  · by_cases c2 : 65 < a
    · unfold en_Is en_At at h1 ⊢
      rw [md_hi c2] at h1 ⊢
      exact h1
    · exfalso
      unfold en_Is en_At at h1
      rcases (by omega : a = 42 ∨ a = 43 ∨ a = 44 ∨ a = 45 ∨ a = 46 ∨ a = 47 ∨ a = 48 ∨ a = 49 ∨ a = 50 ∨ a = 51 ∨ a = 52 ∨ a = 53 ∨ a = 54 ∨ a = 55 ∨ a = 56 ∨ a = 57 ∨ a = 58 ∨ a = 59 ∨ a = 60 ∨ a = 61 ∨ a = 62 ∨ a = 63 ∨ a = 64 ∨ a = 65) with rfl | rfl | rfl | rfl | rfl | rfl | rfl | rfl | rfl | rfl | rfl | rfl | rfl | rfl | rfl | rfl | rfl | rfl | rfl | rfl | rfl | rfl | rfl | rfl <;> exact nomatch h1
theorem al_en {h : q_H} {n : Nat} {f f' : Nat → Int64} {a b : Nat} {e : zE} (hb : h b = some (q_al n f)) (h1 : en_Is h a e) : en_Is (q_up h b (q_al n f')) a e := by
  unfold en_Is en_At at h1 ⊢
  by_cases c : a = b
  · subst c; rw [hb] at h1; exact nomatch h1
  · rw [q_up_n _ c]; exact h1
theorem INV_h {h h' : q_H} {E : Nat → zE} {N N' : Nat} {R : zR} {M : mR} (H : INV (h, E, N, R) M) (h1 : ∀ a e, en_Is h a e → en_Is h' a e) (hd : ∀ a, N' < a → h' a = none) (hN : N ≤ N') : INV (h', E, N', R) M := by
  obtain ⟨⟨⟨⟨g1, g2, g3, g4⟩, g5⟩, -, g6⟩, g7⟩ := H
  refine ⟨⟨⟨⟨g1, g2, g3, fun i hi => ?_⟩, Nat.le_trans g5 hN⟩, hd, g6⟩, g7⟩
  obtain ⟨⟨e1, e2⟩, e3⟩ := g4 i hi
  refine ⟨⟨e1, fun j hj => ?_⟩, e3⟩
  obtain ⟨a, k1, k2, k3, k4⟩ := e2 j hj
  exact ⟨a, k1, k2, h1 a _ k3, k4⟩
def LSt (x : zX) (M : mR) (f : Nat → Int64) : Prop := INV x M ∧ x_h x = md_put (x_h x) M ∧ x_h x 66 = some (q_al 1 f) ∧ 66 ≤ x_N x
theorem md_of_eq {h h' : q_H} {M : mR} (h1 : h = md_put h M) (he : ∀ a, a ≤ 65 → h' a = h a) : h' = md_put h' M := by
  funext b
  by_cases c : b < 42
  · rw [md_lo c]
  · by_cases c2 : 65 < b
    · rw [md_hi c2]
    · rw [he b (by omega)]
      have h2 := congrFun h1 b
      rcases (by omega : b = 42 ∨ b = 43 ∨ b = 44 ∨ b = 45 ∨ b = 46 ∨ b = 47 ∨ b = 48 ∨ b = 49 ∨ b = 50 ∨ b = 51 ∨ b = 52 ∨ b = 53 ∨ b = 54 ∨ b = 55 ∨ b = 56 ∨ b = 57 ∨ b = 58 ∨ b = 59 ∨ b = 60 ∨ b = 61 ∨ b = 62 ∨ b = 63 ∨ b = 64 ∨ b = 65) with rfl | rfl | rfl | rfl | rfl | rfl | rfl | rfl | rfl | rfl | rfl | rfl | rfl | rfl | rfl | rfl | rfl | rfl | rfl | rfl | rfl | rfl | rfl | rfl <;> exact h2
/-- between the class's call and the model's -/
theorem MID {x : zX} {M : mR} {f : Nat → Int64} {L : List String} {r : zO} {s : Int32 × mR} {o : Option Value ⊕ String} {h' : q_H} {N' : Nat} (h : LSt x M f) (hE : Ex x r.2) (hA : Ag L r s) (hn : L.Nodup) (hl : L.length ≤ 5) (hw : q_W L r o h' N') : ∃ (k : Nat) (g : q_H) (f' : Nat → Int64), k ≤ 5 ∧ o = .inl (some (.int (nI k))) ∧ h' = md_put (zs_put g (x_R r.2)) M ∧ LSt (md_put g s.2, x_E r.2, N', x_R r.2) s.2 f' ∧ s.2.1.1 = nI k ∧ (k = 0 → f' 0 = s.1.toInt64) := by
  obtain ⟨i1, i2, i3, i4⟩ := h
  obtain ⟨hN, hw⟩ := hw
  obtain ⟨a1, a2⟩ := hA
  have hN2 := hE.1
  have j66 : x_h r.2 66 = some (q_al 1 f) := (hE.2 66 i4).trans i3
  have jmd : x_h r.2 = md_put (x_h r.2) M := md_of_eq i2 (fun a ha => hE.2 a (by omega))
  have hdom := a1.1.2.1
  rcases hw with ⟨v, f', w1, w2, w3, w4⟩ | ⟨c, E, w1, w2, w3, w4⟩
  · have gmd : q_up (x_h r.2) 66 (q_al 1 f') = md_put (q_up (x_h r.2) 66 (q_al 1 f')) M := md_of_eq jmd (fun a ha => q_up_n _ (by omega))
    refine ⟨0, q_up (x_h r.2) 66 (q_al 1 f'), f', by decide, w2, ?_, ⟨?_, (md_md _ _ _).symm, ?_, by show 66 ≤ N'; omega⟩, ?_, fun _ => ?_⟩
    · rw [w4, zs_up _ _ _ _ (by decide), ← zm_comm, ← gmd]
    · refine INV_h (h := x_h r.2) (N := x_N r.2) a1 (fun a e he => ?_) (fun a ha => ?_) hN
      · have he2 := al_en (f' := f') j66 he
        rw [gmd] at he2
        exact md_en he2
      · rw [md_hi (by omega), q_up_n _ (by omega)]
        exact hdom a (by omega)
    · show md_put (q_up (x_h r.2) 66 (q_al 1 f')) s.2 66 = _
      rw [md_hi (by decide), q_up_s]
    · rcases a2 with ⟨-, b2⟩ | ⟨c, E, -, b2, -⟩
      · exact b2
      · rw [w1] at b2; exact nomatch b2
    · rcases a2 with ⟨b1, -⟩ | ⟨c, E, -, b2, -⟩
      · rw [w1] at b1
        have b3 : v = s.1 := by
          have := Sum.inl.inj b1
          have := Option.some.inj this
          exact Value.int.inj this
        rw [w3, b3]
      · rw [w1] at b2; exact nomatch b2
  · have hc : c < L.length := (List.getElem?_eq_some_iff.mp w1).1
    refine ⟨c + 1, x_h r.2, f, by omega, w3, ?_, ⟨?_, (md_md _ _ _).symm, ?_, by show 66 ≤ N'; omega⟩, ?_, fun z => by omega⟩
    · rw [w4, ← zm_comm, ← jmd]
    · refine INV_h (h := x_h r.2) (N := x_N r.2) a1 (fun a e he => ?_) (fun a ha => ?_) hN
      · rw [jmd] at he
        exact md_en he
      · rw [md_hi (by omega)]
        exact hdom a (by omega)
    · show md_put (x_h r.2) s.2 66 = _
      rw [md_hi (by decide)]; exact j66
    · rcases a2 with ⟨b1, -⟩ | ⟨c', E', b1, b2, b3⟩
      · rw [w2] at b1; exact nomatch b1
      · have e1 : E = E' := Sum.inr.inj (w2.symm.trans b2)
        subst e1
        have e2 : c = c' := (List.getElem?_inj hc hn).mp (w1.trans b1.symm)
        rw [b3, e2]
theorem Ag_Rs {L : List String} {r : zO} {s : Int32 × mR} (h : Ag L r s) : q_Rs L r := by
  rcases h.2 with ⟨b1, -⟩ | ⟨c, E, b1, b2, -⟩
  · exact Or.inl ⟨_, b1⟩
  · exact Or.inr ⟨c, E, b1, b2⟩
/-! the epoch -/
theorem Ep_pr (e : zE) (x : zX) : z_ep (x_R (x_pr e x)) = z_ep (x_R x) := by
  have h := (Kp_sp (va_up (x_E x) (x_N x + 1) e) (apP (x_N x + 1) e (x_R x))).1.2.1
  refine h.trans ?_
  unfold apP
  split <;> rfl
theorem Ep_c1 (i : Nat) (x : zX) : z_ep (x_R (cl1 i x)) = z_ep (x_R x) := by
  unfold cl1
  split
  · split
    · exact Ep_pr (3, 0, nI 0, nI i, false) x
    · rfl
  · rfl
theorem Ep_cG : ∀ (g i : Nat) (x : zX), z_ep (x_R (clG g i x)) = z_ep (x_R x) := by
  intro g
  induction g with
  | zero => intro i x; rfl
  | succ g ih => intro i x; exact (ih (i + 1) (cl1 i x)).trans (Ep_c1 i x)
theorem Ep_cd (x : zX) : z_ep (x_R (x_cd x)) = z_ep (x_R x) := by
  unfold x_cd
  split
  · exact Ep_cG 4 0 x
  · rfl
theorem Ep_prop (e : zE) (ans : zX → Int32) (x : zX) : z_ep (x_R (z_prop e ans x).2) = z_ep (x_R x) := by
  unfold z_prop
  split
  · rfl
  · split
    · exact Ep_pr e x
    · exact Ep_pr e x
theorem Ep_tk (R : zR) : ∀ n, z_ep (tkK R n).1 = z_ep R := by
  intro n
  induction n with
  | zero => rfl
  | succ n ih =>
    unfold tkK
    split
    · exact ih
    · exact ih
theorem Ep_cr (k : Nat) (R : zR) : ∀ n, z_ep (crK k R n) = z_ep R := by
  intro n
  induction n with
  | zero => rfl
  | succ n ih =>
    unfold crK
    split
    · exact ih
    · exact ih
def Eq1 (x y : zX) : Prop := z_ep (x_R y) ≤ z_ep (x_R x) + 1
theorem Eq1_of {x y : zX} (h : z_ep (x_R y) = z_ep (x_R x)) : Eq1 x y := by unfold Eq1; omega
theorem Ep_w1 (R : zR) (j p : Nat) (k : Int32) (b : Bool) : z_ep (z_w1 R j p k b) = z_ep R := by cases b <;> rfl
theorem Ep_open (s i to : Int32) (x : zX) : Eq1 x (z_open s i to x).2 := by
  unfold z_open
  repeat' split
  all_goals exact Eq1_of rfl
theorem Ep_ping (s : Int32) (x : zX) : Eq1 x (z_ping s x).2 := by
  unfold z_ping
  repeat' split
  all_goals exact Eq1_of rfl
theorem Ep_move (s i : Int32) (x : zX) : Eq1 x (z_move s i x).2 := by
  unfold z_move
  repeat' split
  all_goals exact Eq1_of rfl
theorem Ep_get (s q : Int32) (b : Bool) (x : zX) : Eq1 x (z_get s q b x).2 := by
  unfold z_get
  repeat' split
  all_goals first | exact Eq1_of rfl | exact Eq1_of (Ep_w1 _ _ _ _ _)
theorem Ep_exists (s q : Int32) (b : Bool) (x : zX) : Eq1 x (z_exists s q b x).2 := by
  unfold z_exists
  repeat' split
  all_goals first | exact Eq1_of rfl | exact Eq1_of (Ep_w1 _ _ _ _ _)
theorem Ep_children (s q : Int32) (b : Bool) (x : zX) : Eq1 x (z_children s q b x).2 := by
  unfold z_children
  repeat' split
  all_goals first | exact Eq1_of rfl | exact Eq1_of (Ep_w1 _ _ _ _ _)
theorem Ep_fact (s q w : Int32) (x : zX) : Eq1 x (z_fact s q w x).2 := by
  unfold z_fact
  repeat' split
  all_goals exact Eq1_of rfl
theorem Ep_event (s : Int32) (x : zX) : Eq1 x (z_event s x).2 := by
  unfold z_event
  repeat' split
  all_goals exact Eq1_of rfl
theorem Ep_state (i w : Int32) (x : zX) : Eq1 x (z_state i w x).2 := by
  unfold z_state
  split
  all_goals exact Eq1_of rfl
theorem Ep_count (w : Int32) (x : zX) : Eq1 x (z_count w x).2 := by
  unfold z_count
  split
  all_goals exact Eq1_of rfl
theorem Ep_set (s q v d : Int32) (x : zX) : Eq1 x (z_set s q v d x).2 := by
  unfold z_set
  repeat' split
  all_goals first | exact Eq1_of (Ep_prop _ _ x) | exact Eq1_of rfl
theorem Ep_delete (s q v : Int32) (x : zX) : Eq1 x (z_delete s q v x).2 := by
  unfold z_delete
  repeat' split
  all_goals first | exact Eq1_of (Ep_prop _ _ x) | exact Eq1_of rfl
theorem Ep_create (s q d f : Int32) (x : zX) : Eq1 x (z_create s q d f x).2 := by
  unfold z_create z_cr1 z_cr2
  repeat' split
  all_goals first | exact Eq1_of (Ep_prop _ _ x) | exact Eq1_of rfl
theorem Ep_close (s : Int32) (x : zX) : Eq1 x (z_close s x).2 := by
  unfold z_close
  split
  · split
    · exact Eq1_of (Ep_cd (x_sR x (z_en (x_R x) (nT s))))
    · exact Eq1_of rfl
  · exact Eq1_of rfl
theorem Ep_restart (i : Int32) (x : zX) : Eq1 x (z_restart i x).2 := by
  unfold z_restart
  split
  · split
    · exact Eq1_of ((Ep_cd (z_rs0 (nT i) x)).trans (Kp_sp (x_E x) _).1.2.1)
    · exact Eq1_of rfl
  · exact Eq1_of rfl
theorem Ep_alone (i : Int32) (b : Bool) (x : zX) : Eq1 x (z_alone i b x).2 := by
  unfold z_alone
  split
  · exact Eq1_of ((Ep_cd (z_al0 (nT i) b x)).trans (Kp_sp (x_E x) _).1.2.1)
  · exact Eq1_of rfl
theorem Ep_tick (b : Int32) (x : zX) : Eq1 x (z_tick b x).2 := by
  unfold z_tick
  split
  · exact Eq1_of ((Ep_cd (x_sR x (tkK (x_R (z_tk0 b x)) 4).1)).trans (Ep_tk (x_R (z_tk0 b x)) 4))
  · exact Eq1_of rfl
theorem Ep_crash (i : Int32) (x : zX) : Eq1 x (z_crash i x).2 := by
  unfold z_crash
  split
  · split
    · exact Eq1_of (Ep_cr (nT i) (z_cr0 (nT i) (x_R x)) 4)
    · exact Eq1_of rfl
  · exact Eq1_of rfl
theorem Ep_elect (x : zX) : Eq1 x (z_elect x).2 := by
  unfold z_elect
  split
  · split
    · exact Eq1_of rfl
    · next k _ =>
      have h : z_ep (x_R (x_cd (z_el0 k x))) = z_ep (x_R x) + 1 := (Ep_cd (z_el0 k x)).trans (Kp_sp (x_E x) _).1.2.1
      exact Nat.le_of_eq h
  · exact Eq1_of rfl

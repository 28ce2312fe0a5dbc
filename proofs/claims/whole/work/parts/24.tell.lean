/-! SERVER.follow; SESSION: telling, hearing, taking events; ENTRY's constructor -/
def cpL (f g : Nat → Option Nat) (k : Nat) : Nat → Option Nat := fun i => if i < k then f i else g i
theorem cpL_0 (f g : Nat → Option Nat) : cpL f g 0 = g := by funext i; simp [cpL]
theorem cpL_s {f g : Nat → Option Nat} {k x : Nat} (hx : f k = some x) : va_up (cpL f g k) k (some x) = cpL f g (k + 1) := by
  funext i
  by_cases c : i = k
  · subst c; simp [va_up, cpL, hx]
  · have : i < k + 1 ↔ i < k := by omega
    simp [va_up, cpL, c, this]
theorem va_up_id {f : Nat → Option Nat} {k x : Nat} (hx : f k = some x) : va_up f k (some x) = f := by
  funext i
  by_cases c : i = k
  · subst c; simp [va_up, hx]
  · simp [va_up, c]
/-- a session's watches, events and their number -/
abbrev wS : Type := (Nat → Int32) × (Nat → Int32) × Nat
/-- tellWatches(p, tl, kd) -/
def tw1 (p : Nat) (tl : Int32) (kd : Nat) (X : wS) : wS := if (X.1 p &&& tl) = 0 then X else (upd X.1 p (X.1 p &&& (tl ^^^ (-1))), if X.2.2 < 8 then (upd X.2.1 X.2.2 (nI (kd * 300 + p)), X.2.2 + 1) else X.2)
/-- tellOf(p, kd) -/
def toS (kd p : Nat) (X : wS) : wS := if kd = 2 then tw1 p (nI 1) 2 X else tw1 ((p - 1) / 6) (nI 2) 4 (tw1 p (if kd = 3 then nI 3 else nI 1) kd X)
/-- hearing a CLOSE, of the paths below k -/
def hrK (ow : Nat → Int32) (o : Int32) : Nat → wS → wS
  | 0, X => X
  | k + 1, X => if 1 ≤ k ∧ ow k = o then toS 3 k (hrK ow o k X) else hrK ow o k X
theorem tw1_8 {p : Nat} {tl : Int32} {kd : Nat} {X : wS} (h : X.2.2 ≤ 8) : (tw1 p tl kd X).2.2 ≤ 8 := by
  unfold tw1
  split
  · exact h
  · dsimp only
    split
    · dsimp only; omega
    · exact h
theorem toS_8 {kd p : Nat} {X : wS} (h : X.2.2 ≤ 8) : (toS kd p X).2.2 ≤ 8 := by
  unfold toS
  split
  · exact tw1_8 h
  · exact tw1_8 (tw1_8 h)
theorem hrK_8 {ow : Nat → Int32} {o : Int32} {X : wS} (h : X.2.2 ≤ 8) : ∀ k, (hrK ow o k X).2.2 ≤ 8 := by
  intro k
  induction k with
  | zero => exact h
  | succ k ih =>
    unfold hrK
    split
    · exact toS_8 ih
    · exact ih
def shK (ev : Nat → Int32) (k : Nat) : Nat → Int32 := fun j => if j + 1 < k then ev (j + 1) else ev j
theorem shK_1 (ev : Nat → Int32) : shK ev 1 = ev := by funext j; simp [shK]
theorem shK_at (ev : Nat → Int32) (k : Nat) : shK ev k k = ev k := by unfold shK; rw [if_neg (by omega)]
theorem shK_s {ev : Nat → Int32} {k : Nat} (hk : 1 ≤ k) : upd (shK ev k) (k - 1) (ev k) = shK ev (k + 1) := by
  funext j
  by_cases c : j = k - 1
  · subst c
    have : k - 1 + 1 = k := by omega
    simp [upd, shK, this]
  · have : j + 1 < k + 1 ↔ j + 1 < k := by omega
    simp only [upd, shK, c, if_false, this]
set_option maxHeartbeats 4000000 in
set_option maxRecDepth 100000 in
theorem lp_sv_follow {l : Launch} {G : q_G} {h : q_H} {N : Nat} {s : Nat} {lf : Nat → Option Nat} {ln ap ag : Nat} {up al : Bool} {s2 : Nat} {lf2 : Nat → Option Nat} {ln2 ap2 ag2 : Nat} {up2 al2 : Bool} (hV2 : sv_At h s2 lf2 ln2 ap2 ag2 up2 al2) (hd : s2 + 1 < s ∨ s + 1 < s2) (hl : ln2 ≤ 64) (hent : ∀ i, i < ln2 → ∃ (a : Nat) (vs : List Value), lf2 i = some a ∧ h a = some (.inr (0, vs)) ∧ (a < s ∨ s + 1 < a)) {na : Nat} : ∀ (g k : Nat), ln2 < k + g → k ≤ ln2 → q_Ev l G m_sv_follow 0 0 0 0 2 [some (.ref (s)), some (.ref (s2)), some (.int (nI (na))), some (.int (nI (k)))] [] (sv_put h s (cpL lf2 lf k) ln ap ag up al) N (q_To none (sv_put h s (cpL lf2 lf ln2) ln2 ap na up al) N) := by
  intro g
  induction g with
  | zero => intro k hg hk; omega
  | succ g ih =>
    intro k hg hk
    refine e_iload_n (pc := 2) d_sv_follow_2 rfl ?_
    refine e_aload_n (pc := 3) d_sv_follow_3 rfl ?_
    refine e_get (pc := 4) d_sv_follow_4 fl_sv_24 ((sv_gx (show s2 < s ∨ s + 1 < s2 by omega)).trans hV2.1) rfl ?_
    refine e_icmp_geN (pc := 7) (tgt := 28) d_sv_follow_7 (by decide) (by omega) (by omega) (fun c => ?_) (fun c => ?_)
    · have hkn : ln2 = k := by omega
      subst hkn
      refine e_aload_n (pc := 28) d_sv_follow_28 rfl ?_
      refine e_aload_n (pc := 29) d_sv_follow_29 rfl ?_
      refine e_get (pc := 30) d_sv_follow_30 fl_sv_24 ((sv_gx (show s2 < s ∨ s + 1 < s2 by omega)).trans hV2.1) rfl ?_
      refine e_putE (pc := 33) d_sv_follow_33 (fs2 := [.ref (s + 1), .ref (s + 2), .int (nI (ln2)), .int (nI (ap)), .int (nI (ag)), .int (bI (up)), .int (bI (al))]) fl_sv_24 sv_g0 (Nat.le_of_ble_eq_true rfl) (fun _ => rfl) (fun _ => rfl) rfl ?_
      rw [sv_u0]
      refine e_aload_n (pc := 36) d_sv_follow_36 rfl ?_
      refine e_iload_n (pc := 37) d_sv_follow_37 rfl ?_
      refine e_putE (pc := 38) d_sv_follow_38 (fs2 := [.ref (s + 1), .ref (s + 2), .int (nI (ln2)), .int (nI (ap)), .int (nI (na)), .int (bI (up)), .int (bI (al))]) fl_sv_31 sv_g0 (Nat.le_of_ble_eq_true rfl) (fun _ => rfl) (fun _ => rfl) rfl ?_
      rw [sv_u0]
      exact e_vret (pc := 41) d_sv_follow_41 rfl (⟨rfl, rfl, rfl⟩)
    · obtain ⟨x, vs, hx, hxo, hxd⟩ := hent k c
      refine e_aload_n (pc := 10) d_sv_follow_10 rfl ?_
      refine e_get (pc := 11) d_sv_follow_11 fl_sv_11 sv_g0 rfl ?_
      refine e_iload_n (pc := 14) d_sv_follow_14 rfl ?_
      refine e_aload_n (pc := 15) d_sv_follow_15 rfl ?_
      refine e_get (pc := 16) d_sv_follow_16 fl_sv_11 ((sv_gx (show s2 < s ∨ s + 1 < s2 by omega)).trans hV2.1) rfl ?_
      refine e_iload_n (pc := 19) d_sv_follow_19 rfl ?_
      refine e_aaldN (pc := 20) d_sv_follow_20 ((sv_gx (show s2 + 1 < s ∨ s + 1 < s2 + 1 by omega)).trans hV2.2) (fun _ => rfl) (by omega) (by decide) hx ?_
      refine e_aastN (pc := 21) d_sv_follow_21 sv_g1 ((sv_gx hxd).trans hxo) rfl (fun _ => rfl) (by omega) (by decide) ?_
      rw [sv_u1, cpL_s hx]
      refine e_iincN (pc := 22) d_sv_follow_22 (a := k) (b := 1) rfl rfl (by decide) ?_
      refine e_goto (pc := 25) (tgt := 2) d_sv_follow_25 (by decide) ?_
      exact ih (k + 1) (by omega) (by omega)
set_option maxHeartbeats 4000000 in
set_option maxRecDepth 100000 in
theorem c_sv_follow {l : Launch} {G : q_G} (htr : l.stackTraces = false) {h : q_H} {N : Nat} {s : Nat} {lf : Nat → Option Nat} {ln ap ag : Nat} {up al : Bool} (hV : sv_At h s lf ln ap ag up al) {s2 : Nat} {lf2 : Nat → Option Nat} {ln2 ap2 ag2 : Nat} {up2 al2 : Bool} (hV2 : sv_At h s2 lf2 ln2 ap2 ag2 up2 al2) (hd : s2 + 1 < s ∨ s + 1 < s2) (hl : ln2 ≤ 64) (hent : ∀ i, i < ln2 → ∃ (a : Nat) (vs : List Value), lf2 i = some a ∧ h a = some (.inr (0, vs)) ∧ (a < s ∨ s + 1 < a)) {na : Nat} : q_Met l G m_sv_follow 0 0 0 0 [.ref (s), .ref (s2), .int (nI (na))] h N (q_To none (sv_put h s (cpL lf2 lf ln2) ln2 ap na up al) N) := by
  refine q_Met.mk htr (by decide +kernel) rfl (List.forall_mem_cons.mpr ⟨rfl, List.forall_mem_cons.mpr ⟨rfl, List.forall_mem_cons.mpr ⟨rfl, fun _ h => nomatch h⟩⟩⟩) (Nat.le_of_ble_eq_true rfl) ?_
  refine e_iconst (pc := 0) d_sv_follow_0 (v := (nI (0))) rfl ?_
  refine e_istore_n (pc := 1) d_sv_follow_1 (by decide) ?_
  have := lp_sv_follow (l := l) (G := G) (N := N) (lf := lf) (ln := ln) (ap := ap) (ag := ag) (up := up) (al := al) (na := na) hV2 hd hl hent (ln2 + 1) 0 (by omega) (by omega)
  rw [cpL_0, sv_put_id hV] at this
  exact this
set_option maxHeartbeats 4000000 in
set_option maxRecDepth 100000 in
theorem lp_sv_follow1 {l : Launch} {G : q_G} {h : q_H} {N : Nat} {s : Nat} {lf : Nat → Option Nat} {ln ap ag : Nat} {up al : Bool} (hV : sv_At h s lf ln ap ag up al) (hl : ln ≤ 64) (hent : ∀ i, i < ln → ∃ (a : Nat) (vs : List Value), lf i = some a ∧ h a = some (.inr (0, vs))) {na : Nat} : ∀ (g k : Nat), ln < k + g → k ≤ ln → q_Ev l G m_sv_follow 0 0 0 0 2 [some (.ref (s)), some (.ref (s)), some (.int (nI (na))), some (.int (nI (k)))] [] h N (q_To none (sv_put h s lf ln ap na up al) N) := by
  intro g
  induction g with
  | zero => intro k hg hk; omega
  | succ g ih =>
    intro k hg hk
    refine e_iload_n (pc := 2) d_sv_follow_2 rfl ?_
    refine e_aload_n (pc := 3) d_sv_follow_3 rfl ?_
    refine e_get (pc := 4) d_sv_follow_4 fl_sv_24 hV.1 rfl ?_
    refine e_icmp_geN (pc := 7) (tgt := 28) d_sv_follow_7 (by decide) (by omega) (by omega) (fun c => ?_) (fun c => ?_)
    · have hkn : ln = k := by omega
      subst hkn
      refine q_Ev.hp (sv_put_id hV) ?_
      refine e_aload_n (pc := 28) d_sv_follow_28 rfl ?_
      refine e_aload_n (pc := 29) d_sv_follow_29 rfl ?_
      refine e_get (pc := 30) d_sv_follow_30 fl_sv_24 sv_g0 rfl ?_
      refine e_putE (pc := 33) d_sv_follow_33 (fs2 := [.ref (s + 1), .ref (s + 2), .int (nI (ln)), .int (nI (ap)), .int (nI (ag)), .int (bI (up)), .int (bI (al))]) fl_sv_24 sv_g0 (Nat.le_of_ble_eq_true rfl) (fun _ => rfl) (fun _ => rfl) rfl ?_
      rw [sv_u0]
      refine e_aload_n (pc := 36) d_sv_follow_36 rfl ?_
      refine e_iload_n (pc := 37) d_sv_follow_37 rfl ?_
      refine e_putE (pc := 38) d_sv_follow_38 (fs2 := [.ref (s + 1), .ref (s + 2), .int (nI (ln)), .int (nI (ap)), .int (nI (na)), .int (bI (up)), .int (bI (al))]) fl_sv_31 sv_g0 (Nat.le_of_ble_eq_true rfl) (fun _ => rfl) (fun _ => rfl) rfl ?_
      rw [sv_u0]
      exact e_vret (pc := 41) d_sv_follow_41 rfl (⟨rfl, rfl, rfl⟩)
    · obtain ⟨x, vs, hx, hxo⟩ := hent k c
      refine e_aload_n (pc := 10) d_sv_follow_10 rfl ?_
      refine e_get (pc := 11) d_sv_follow_11 fl_sv_11 hV.1 rfl ?_
      refine e_iload_n (pc := 14) d_sv_follow_14 rfl ?_
      refine e_aload_n (pc := 15) d_sv_follow_15 rfl ?_
      refine e_get (pc := 16) d_sv_follow_16 fl_sv_11 hV.1 rfl ?_
      refine e_iload_n (pc := 19) d_sv_follow_19 rfl ?_
      refine e_aaldN (pc := 20) d_sv_follow_20 hV.2 (fun _ => rfl) (by omega) (by decide) hx ?_
      refine e_aastN (pc := 21) d_sv_follow_21 hV.2 hxo rfl (fun _ => rfl) (by omega) (by decide) ?_
      rw [va_up_id hx, q_up_id hV.2]
      refine e_iincN (pc := 22) d_sv_follow_22 (a := k) (b := 1) rfl rfl (by decide) ?_
      refine e_goto (pc := 25) (tgt := 2) d_sv_follow_25 (by decide) ?_
      exact ih (k + 1) (by omega) (by omega)
set_option maxHeartbeats 4000000 in
set_option maxRecDepth 100000 in
theorem c_sv_follow1 {l : Launch} {G : q_G} (htr : l.stackTraces = false) {h : q_H} {N : Nat} {s : Nat} {lf : Nat → Option Nat} {ln ap ag : Nat} {up al : Bool} (hV : sv_At h s lf ln ap ag up al) (hl : ln ≤ 64) (hent : ∀ i, i < ln → ∃ (a : Nat) (vs : List Value), lf i = some a ∧ h a = some (.inr (0, vs))) {na : Nat} : q_Met l G m_sv_follow 0 0 0 0 [.ref (s), .ref (s), .int (nI (na))] h N (q_To none (sv_put h s lf ln ap na up al) N) := by
  refine q_Met.mk htr (by decide +kernel) rfl (List.forall_mem_cons.mpr ⟨rfl, List.forall_mem_cons.mpr ⟨rfl, List.forall_mem_cons.mpr ⟨rfl, fun _ h => nomatch h⟩⟩⟩) (Nat.le_of_ble_eq_true rfl) ?_
  refine e_iconst (pc := 0) d_sv_follow_0 (v := (nI (0))) rfl ?_
  refine e_istore_n (pc := 1) d_sv_follow_1 (by decide) ?_
  exact lp_sv_follow1 hV hl hent (ln + 1) 0 (by omega) (by omega)
set_option maxHeartbeats 4000000 in
set_option maxRecDepth 100000 in
theorem c_ss_tellWatches {l : Launch} {G : q_G} (htr : l.stackTraces = false) {h : q_H} {N : Nat} {s : Nat} {X : wS} {op du : Bool} {sv : Nat} {to he : Int32} (hS : ss_At h s X.1 X.2.1 X.2.2 op du sv to he) (h8 : X.2.2 ≤ 8) {p kd : Nat} {tl : Int32} (hp : p < 259) : q_Met l G m_ss_tellWatches 0 0 0 0 [.ref (s), .int (nI (p)), .int (tl), .int (nI (kd))] h N (q_To none (ss_put h s (tw1 p tl kd X).1 (tw1 p tl kd X).2.1 (tw1 p tl kd X).2.2 op du sv to he) N) := by
  refine q_Met.mk htr (by decide +kernel) rfl (List.forall_mem_cons.mpr ⟨rfl, List.forall_mem_cons.mpr ⟨rfl, List.forall_mem_cons.mpr ⟨rfl, List.forall_mem_cons.mpr ⟨rfl, fun _ h => nomatch h⟩⟩⟩⟩) (Nat.le_of_ble_eq_true rfl) ?_
  refine q_Ev.hp (ss_put_id hS) ?_
  refine e_aload_n (pc := 0) d_ss_tellWatches_0 rfl ?_
  refine e_get (pc := 1) d_ss_tellWatches_1 fl_ss_9 ss_g0 rfl ?_
  refine e_iload_n (pc := 4) d_ss_tellWatches_4 rfl ?_
  refine e_ialdN (pc := 5) d_ss_tellWatches_5 ss_g1 (by omega) (by decide) ?_
  refine e_iload_n (pc := 6) d_ss_tellWatches_6 rfl ?_
  refine e_iand (pc := 7) d_ss_tellWatches_7  ?_
  refine e_if_ne (pc := 8) (tgt := 12) d_ss_tellWatches_8 (by decide) (fun c => ?_) (fun c => ?_)
  · refine e_aload_n (pc := 12) d_ss_tellWatches_12 rfl ?_
    refine e_get (pc := 13) d_ss_tellWatches_13 fl_ss_9 ss_g0 rfl ?_
    refine e_iload_n (pc := 16) d_ss_tellWatches_16 rfl ?_
    refine e_dup2 (pc := 17) d_ss_tellWatches_17 rfl rfl ?_
    refine e_ialdN (pc := 18) d_ss_tellWatches_18 ss_g1 (by omega) (by decide) ?_
    refine e_iload_n (pc := 19) d_ss_tellWatches_19 rfl ?_
    refine e_iconst (pc := 20) d_ss_tellWatches_20 (v := (-1)) rfl ?_
    refine e_ixor (pc := 21) d_ss_tellWatches_21  ?_
    refine e_iand (pc := 22) d_ss_tellWatches_22  ?_
    refine e_iastN (pc := 23) d_ss_tellWatches_23 ss_g1 (by omega) (by decide) ?_
    rw [ss_u1]
    refine e_aload_n (pc := 24) d_ss_tellWatches_24 rfl ?_
    refine e_get (pc := 25) d_ss_tellWatches_25 fl_ss_18 ss_g0 rfl ?_
    refine e_bipush (pc := 28) d_ss_tellWatches_28 (v := (nI (8))) rfl ?_
    refine e_icmp_geN (pc := 30) (tgt := 59) d_ss_tellWatches_30 (by decide) (by omega) (by omega) (fun c2 => ?_) (fun c2 => ?_)
    · exact e_vret (pc := 59) d_ss_tellWatches_59 rfl (⟨rfl, by simp only [tw1, if_neg c, if_neg (show ¬ X.2.2 < 8 by omega)], rfl⟩)
    · refine e_aload_n (pc := 33) d_ss_tellWatches_33 rfl ?_
      refine e_get (pc := 34) d_ss_tellWatches_34 fl_ss_15 ss_g0 rfl ?_
      refine e_aload_n (pc := 37) d_ss_tellWatches_37 rfl ?_
      refine e_get (pc := 38) d_ss_tellWatches_38 fl_ss_18 ss_g0 rfl ?_
      refine e_iload_n (pc := 41) d_ss_tellWatches_41 rfl ?_
      refine e_sipush (pc := 42) d_ss_tellWatches_42 (v := (nI (300))) rfl ?_
      refine e_imulN (pc := 45) d_ss_tellWatches_45  ?_
      refine e_iload_n (pc := 46) d_ss_tellWatches_46 rfl ?_
      refine e_iaddN (pc := 47) d_ss_tellWatches_47  ?_
      refine e_iastN (pc := 48) d_ss_tellWatches_48 ss_g2 (by omega) (by decide) ?_
      rw [ss_u2]
      refine e_aload_n (pc := 49) d_ss_tellWatches_49 rfl ?_
      refine e_dup (pc := 50) d_ss_tellWatches_50 rfl ?_
      refine e_get (pc := 51) d_ss_tellWatches_51 fl_ss_18 ss_g0 rfl ?_
      refine e_iconst (pc := 54) d_ss_tellWatches_54 (v := (nI (1))) rfl ?_
      refine e_iaddN (pc := 55) d_ss_tellWatches_55  ?_
      refine e_putE (pc := 56) d_ss_tellWatches_56 (fs2 := [.ref (s + 1), .ref (s + 2), .int (nI ((X.2.2) + (1))), .int (bI (op)), .int (bI (du)), .int (nI (sv)), .int (to), .int (he)]) fl_ss_18 ss_g0 (Nat.le_of_ble_eq_true rfl) (fun _ => rfl) (fun _ => rfl) rfl ?_
      rw [ss_u0]
      exact e_vret (pc := 59) d_ss_tellWatches_59 rfl (⟨rfl, by simp only [tw1, if_neg c, if_pos c2], rfl⟩)
  · exact e_vret (pc := 11) d_ss_tellWatches_11 rfl (⟨rfl, by simp only [tw1, if_pos c], rfl⟩)
set_option maxHeartbeats 4000000 in
set_option maxRecDepth 100000 in
theorem c_ss_tellOf_1 {l : Launch} {G : q_G} (htr : l.stackTraces = false) {h : q_H} {N : Nat} {s : Nat} {X : wS} {op du : Bool} {sv : Nat} {to he : Int32} (hS : ss_At h s X.1 X.2.1 X.2.2 op du sv to he) (h8 : X.2.2 ≤ 8) {p : Nat} (hp : p < 259) (h1 : 1 ≤ p) : q_Met l G m_ss_tellOf 1 23 0 0 [.ref (s), .int (nI (p)), .int (nI (1))] h N (q_To none (ss_put h s (toS 1 p X).1 (toS 1 p X).2.1 (toS 1 p X).2.2 op du sv to he) N) := by
  refine q_Met.mk htr (by decide +kernel) rfl (List.forall_mem_cons.mpr ⟨rfl, List.forall_mem_cons.mpr ⟨rfl, List.forall_mem_cons.mpr ⟨rfl, fun _ h => nomatch h⟩⟩⟩) (Nat.le_of_ble_eq_true rfl) ?_
  refine e_aload_n (pc := 0) d_ss_tellOf_0 rfl ?_
  refine e_iload_n (pc := 1) d_ss_tellOf_1 rfl ?_
  refine e_iload_n (pc := 2) d_ss_tellOf_2 rfl ?_
  refine e_iconst (pc := 3) d_ss_tellOf_3 (v := (nI (3))) rfl ?_
  refine e_icmp_neN (pc := 4) (tgt := 11) d_ss_tellOf_4 (by decide) (by decide) (by decide) (fun _ => ?_) (fun c => absurd c (by decide))
  refine e_iconst (pc := 11) d_ss_tellOf_11 (v := (nI (1))) rfl ?_
  refine e_iload_n (pc := 12) d_ss_tellOf_12 rfl ?_
  refine e_callV (As := [.int (nI (p)), .int (nI 1), .int (nI (1))]) (st := []) (cc2 := 0) (ss2 := 0) (pc := 13) d_ss_tellOf_13 rfl cv_ss_66 hS.1 rfl (c_ss_tellWatches htr hS h8 (tl := nI 1) (kd := 1) hp) rfl (by decide) (by decide) (by omega) (by omega) (Nat.le_of_ble_eq_true rfl) (fun _ _ _ hq => nomatch hq.1) (fun r h2 N2 hq => ?_)
  obtain ⟨hr, e1, e2⟩ := hq
  cases hr
  rw [e1, e2]
  clear e1 e2
  show q_Ev l G m_ss_tellOf 1 23 0 0 16 [some (.ref (s)), some (.int (nI (p))), some (.int (nI (1)))] [] _ N _
  obtain ⟨Y, hY⟩ : ∃ Y : wS, Y = tw1 p (nI 1) 1 X := ⟨_, rfl⟩
  rw [← hY]
  have h8y : Y.2.2 ≤ 8 := by rw [hY]; exact tw1_8 h8
  have hSy : ss_At (ss_put h s (Y).1 (Y).2.1 (Y).2.2 op du sv to he) s Y.1 Y.2.1 Y.2.2 op du sv to he := ss_put_at
  refine e_iload_n (pc := 16) d_ss_tellOf_16 rfl ?_
  refine e_iconst (pc := 17) d_ss_tellOf_17 (v := (nI (2))) rfl ?_
  refine e_icmp_eqN (pc := 18) (tgt := 31) d_ss_tellOf_18 (by decide) (by decide) (by decide) (fun c => absurd c (by decide)) (fun _ => ?_)
  refine e_aload_n (pc := 21) d_ss_tellOf_21 rfl ?_
  refine e_iload_n (pc := 22) d_ss_tellOf_22 rfl ?_
  refine e_callSN (As := [.int (nI (p))]) (st := [.ref (s)]) (cc2 := 0) (ss2 := 0) (pc := 23) d_ss_tellOf_23 cn_ss_70 (c_zs_parentOf htr h1 (by omega)) rfl (by decide) (by decide) (by omega) (by omega) (Nat.le_of_ble_eq_true rfl) (fun _ _ _ hq => nomatch hq.1) (fun r h2 N2 hq => ?_)
  obtain ⟨hr, e1, e2⟩ := hq
  cases hr
  rw [e1, e2]
  clear e1 e2
  show q_Ev l G m_ss_tellOf 1 23 0 0 26 [some (.ref (s)), some (.int (nI (p))), some (.int (nI (1)))] [.int (nI ((p - 1) / 6)), .ref (s)] (ss_put h s (Y).1 (Y).2.1 (Y).2.2 op du sv to he) N _
  refine e_iconst (pc := 26) d_ss_tellOf_26 (v := (nI (2))) rfl ?_
  refine e_iconst (pc := 27) d_ss_tellOf_27 (v := (nI (4))) rfl ?_
  refine e_callV (As := [.int (nI ((p - 1) / 6)), .int (nI 2), .int (nI (4))]) (st := []) (cc2 := 0) (ss2 := 0) (pc := 28) d_ss_tellOf_28 rfl cv_ss_66 hSy.1 rfl (c_ss_tellWatches htr hSy h8y (tl := nI 2) (kd := 4) (p := (p - 1) / 6) (by omega)) rfl (by decide) (by decide) (by omega) (by omega) (Nat.le_of_ble_eq_true rfl) (fun _ _ _ hq => nomatch hq.1) (fun r h2 N2 hq => ?_)
  obtain ⟨hr, e1, e2⟩ := hq
  cases hr
  rw [e1, e2]
  clear e1 e2
  show q_Ev l G m_ss_tellOf 1 23 0 0 31 [some (.ref (s)), some (.int (nI (p))), some (.int (nI (1)))] [] _ N _
  exact e_vret (pc := 31) d_ss_tellOf_31 rfl (⟨rfl, by rw [ss_put_put, hY]; rfl, rfl⟩)
set_option maxHeartbeats 4000000 in
set_option maxRecDepth 100000 in
theorem c_ss_tellOf_2 {l : Launch} {G : q_G} (htr : l.stackTraces = false) {h : q_H} {N : Nat} {s : Nat} {X : wS} {op du : Bool} {sv : Nat} {to he : Int32} (hS : ss_At h s X.1 X.2.1 X.2.2 op du sv to he) (h8 : X.2.2 ≤ 8) {p : Nat} (hp : p < 259) : q_Met l G m_ss_tellOf 1 23 0 0 [.ref (s), .int (nI (p)), .int (nI (2))] h N (q_To none (ss_put h s (toS 2 p X).1 (toS 2 p X).2.1 (toS 2 p X).2.2 op du sv to he) N) := by
  refine q_Met.mk htr (by decide +kernel) rfl (List.forall_mem_cons.mpr ⟨rfl, List.forall_mem_cons.mpr ⟨rfl, List.forall_mem_cons.mpr ⟨rfl, fun _ h => nomatch h⟩⟩⟩) (Nat.le_of_ble_eq_true rfl) ?_
  refine e_aload_n (pc := 0) d_ss_tellOf_0 rfl ?_
  refine e_iload_n (pc := 1) d_ss_tellOf_1 rfl ?_
  refine e_iload_n (pc := 2) d_ss_tellOf_2 rfl ?_
  refine e_iconst (pc := 3) d_ss_tellOf_3 (v := (nI (3))) rfl ?_
  refine e_icmp_neN (pc := 4) (tgt := 11) d_ss_tellOf_4 (by decide) (by decide) (by decide) (fun _ => ?_) (fun c => absurd c (by decide))
  refine e_iconst (pc := 11) d_ss_tellOf_11 (v := (nI (1))) rfl ?_
  refine e_iload_n (pc := 12) d_ss_tellOf_12 rfl ?_
  refine e_callV (As := [.int (nI (p)), .int (nI 1), .int (nI (2))]) (st := []) (cc2 := 0) (ss2 := 0) (pc := 13) d_ss_tellOf_13 rfl cv_ss_66 hS.1 rfl (c_ss_tellWatches htr hS h8 (tl := nI 1) (kd := 2) hp) rfl (by decide) (by decide) (by omega) (by omega) (Nat.le_of_ble_eq_true rfl) (fun _ _ _ hq => nomatch hq.1) (fun r h2 N2 hq => ?_)
  obtain ⟨hr, e1, e2⟩ := hq
  cases hr
  rw [e1, e2]
  clear e1 e2
  show q_Ev l G m_ss_tellOf 1 23 0 0 16 [some (.ref (s)), some (.int (nI (p))), some (.int (nI (2)))] [] _ N _
  obtain ⟨Y, hY⟩ : ∃ Y : wS, Y = tw1 p (nI 1) 2 X := ⟨_, rfl⟩
  rw [← hY]
  have h8y : Y.2.2 ≤ 8 := by rw [hY]; exact tw1_8 h8
  have hSy : ss_At (ss_put h s (Y).1 (Y).2.1 (Y).2.2 op du sv to he) s Y.1 Y.2.1 Y.2.2 op du sv to he := ss_put_at
  refine e_iload_n (pc := 16) d_ss_tellOf_16 rfl ?_
  refine e_iconst (pc := 17) d_ss_tellOf_17 (v := (nI (2))) rfl ?_
  refine e_icmp_eqN (pc := 18) (tgt := 31) d_ss_tellOf_18 (by decide) (by decide) (by decide) (fun _ => ?_) (fun c => absurd rfl c)
  exact e_vret (pc := 31) d_ss_tellOf_31 rfl (⟨rfl, by rw [hY]; rfl, rfl⟩)
set_option maxHeartbeats 4000000 in
set_option maxRecDepth 100000 in
theorem c_ss_tellOf_3 {l : Launch} {G : q_G} (htr : l.stackTraces = false) {h : q_H} {N : Nat} {s : Nat} {X : wS} {op du : Bool} {sv : Nat} {to he : Int32} (hS : ss_At h s X.1 X.2.1 X.2.2 op du sv to he) (h8 : X.2.2 ≤ 8) {p : Nat} (hp : p < 259) (h1 : 1 ≤ p) : q_Met l G m_ss_tellOf 1 23 0 0 [.ref (s), .int (nI (p)), .int (nI (3))] h N (q_To none (ss_put h s (toS 3 p X).1 (toS 3 p X).2.1 (toS 3 p X).2.2 op du sv to he) N) := by
  refine q_Met.mk htr (by decide +kernel) rfl (List.forall_mem_cons.mpr ⟨rfl, List.forall_mem_cons.mpr ⟨rfl, List.forall_mem_cons.mpr ⟨rfl, fun _ h => nomatch h⟩⟩⟩) (Nat.le_of_ble_eq_true rfl) ?_
  refine e_aload_n (pc := 0) d_ss_tellOf_0 rfl ?_
  refine e_iload_n (pc := 1) d_ss_tellOf_1 rfl ?_
  refine e_iload_n (pc := 2) d_ss_tellOf_2 rfl ?_
  refine e_iconst (pc := 3) d_ss_tellOf_3 (v := (nI (3))) rfl ?_
  refine e_icmp_neN (pc := 4) (tgt := 11) d_ss_tellOf_4 (by decide) (by decide) (by decide) (fun c => absurd rfl c) (fun _ => ?_)
  refine e_iconst (pc := 7) d_ss_tellOf_7 (v := (nI (3))) rfl ?_
  refine e_goto (pc := 8) (tgt := 12) d_ss_tellOf_8 (by decide) ?_
  refine e_iload_n (pc := 12) d_ss_tellOf_12 rfl ?_
  refine e_callV (As := [.int (nI (p)), .int (nI 3), .int (nI (3))]) (st := []) (cc2 := 0) (ss2 := 0) (pc := 13) d_ss_tellOf_13 rfl cv_ss_66 hS.1 rfl (c_ss_tellWatches htr hS h8 (tl := nI 3) (kd := 3) hp) rfl (by decide) (by decide) (by omega) (by omega) (Nat.le_of_ble_eq_true rfl) (fun _ _ _ hq => nomatch hq.1) (fun r h2 N2 hq => ?_)
  obtain ⟨hr, e1, e2⟩ := hq
  cases hr
  rw [e1, e2]
  clear e1 e2
  show q_Ev l G m_ss_tellOf 1 23 0 0 16 [some (.ref (s)), some (.int (nI (p))), some (.int (nI (3)))] [] _ N _
  obtain ⟨Y, hY⟩ : ∃ Y : wS, Y = tw1 p (nI 3) 3 X := ⟨_, rfl⟩
  rw [← hY]
  have h8y : Y.2.2 ≤ 8 := by rw [hY]; exact tw1_8 h8
  have hSy : ss_At (ss_put h s (Y).1 (Y).2.1 (Y).2.2 op du sv to he) s Y.1 Y.2.1 Y.2.2 op du sv to he := ss_put_at
  refine e_iload_n (pc := 16) d_ss_tellOf_16 rfl ?_
  refine e_iconst (pc := 17) d_ss_tellOf_17 (v := (nI (2))) rfl ?_
  refine e_icmp_eqN (pc := 18) (tgt := 31) d_ss_tellOf_18 (by decide) (by decide) (by decide) (fun c => absurd c (by decide)) (fun _ => ?_)
  refine e_aload_n (pc := 21) d_ss_tellOf_21 rfl ?_
  refine e_iload_n (pc := 22) d_ss_tellOf_22 rfl ?_
  refine e_callSN (As := [.int (nI (p))]) (st := [.ref (s)]) (cc2 := 0) (ss2 := 0) (pc := 23) d_ss_tellOf_23 cn_ss_70 (c_zs_parentOf htr h1 (by omega)) rfl (by decide) (by decide) (by omega) (by omega) (Nat.le_of_ble_eq_true rfl) (fun _ _ _ hq => nomatch hq.1) (fun r h2 N2 hq => ?_)
  obtain ⟨hr, e1, e2⟩ := hq
  cases hr
  rw [e1, e2]
  clear e1 e2
  show q_Ev l G m_ss_tellOf 1 23 0 0 26 [some (.ref (s)), some (.int (nI (p))), some (.int (nI (3)))] [.int (nI ((p - 1) / 6)), .ref (s)] (ss_put h s (Y).1 (Y).2.1 (Y).2.2 op du sv to he) N _
  refine e_iconst (pc := 26) d_ss_tellOf_26 (v := (nI (2))) rfl ?_
  refine e_iconst (pc := 27) d_ss_tellOf_27 (v := (nI (4))) rfl ?_
  refine e_callV (As := [.int (nI ((p - 1) / 6)), .int (nI 2), .int (nI (4))]) (st := []) (cc2 := 0) (ss2 := 0) (pc := 28) d_ss_tellOf_28 rfl cv_ss_66 hSy.1 rfl (c_ss_tellWatches htr hSy h8y (tl := nI 2) (kd := 4) (p := (p - 1) / 6) (by omega)) rfl (by decide) (by decide) (by omega) (by omega) (Nat.le_of_ble_eq_true rfl) (fun _ _ _ hq => nomatch hq.1) (fun r h2 N2 hq => ?_)
  obtain ⟨hr, e1, e2⟩ := hq
  cases hr
  rw [e1, e2]
  clear e1 e2
  show q_Ev l G m_ss_tellOf 1 23 0 0 31 [some (.ref (s)), some (.int (nI (p))), some (.int (nI (3)))] [] _ N _
  exact e_vret (pc := 31) d_ss_tellOf_31 rfl (⟨rfl, by rw [ss_put_put, hY]; rfl, rfl⟩)

/-! counting over all throws, on both sides -/
section TRC
variable {nb g : Nat} {k : Nat → Nat} {pp : Nat → Nat → Nat} {t_pips t_many : Nat → Int32} {t_berths t_goal : Int32} {h : Nat → Int32} {s ca wi tu : Nat → Int32} {many ever : Int32}
theorem tr_still (H : tr_H nb g k pp t_pips t_many t_berths t_goal h) (A : tr_A nb k pp s ca wi tu many ever) {t w : Nat} (ht : t < tr_N k) (hw : w < 2) : fX0_opensStill ca wi (nI t) (nI w) = some (tr_o nb k pp w t) := by
  have hN := (tr_N_le H).2
  obtain ⟨-, e0, e1, -⟩ := A.2.1 t ht
  unfold fX0_opensStill
  rw [ck_nI (by omega) (by decide), ck_nI (by omega) (by decide), cl_nI (by omega), e0, e1]
  by_cases h0 : w = 0
  · subst h0; rfl
  · have : w = 1 := by omega
    subst this
    rfl
theorem tr_thrown (H : tr_H nb g k pp t_pips t_many t_berths t_goal h) (A : tr_A nb k pp s ca wi tu many ever) {t w : Nat} (ht : t < tr_N k) (hw : w < 2) : fX0_opensThrown ca wi tu (nI t) (nI w) = some (tr_th nb k pp w t) := by
  have hN := (tr_N_le H).2
  obtain ⟨-, -, -, e⟩ := A.2.1 t ht
  unfold fX0_opensThrown
  rw [ck_nI (by omega) (by decide), cl_nI (by omega), e]
  have hv : (if (if tr_al (tr_a k pp t) (tr_b k pp t) (tr_c k pp t) = 1 then (1 : Int32) else 0) = 0 then some (nI w) else some (1 - nI w)) = some (nI (tr_w2 k pp w t)) := by
    unfold tr_w2
    by_cases e2 : tr_al (tr_a k pp t) (tr_b k pp t) (tr_c k pp t) = 1
    · rw [if_pos e2, if_pos e2, if_neg (by decide), show (1 : Int32) = nI 1 from rfl, pk_sub (by omega)]
    · rw [if_neg e2, if_neg e2, if_pos rfl]
  rw [hv, b1_some, tr_still H A ht (tr_w2_lt hw), b1_some]
  rfl
def tr_ct (nb : Nat) (k : Nat → Nat) (pp : Nat → Nat → Nat) (w : Nat) (S : Int32) (n : Nat) : Nat := fb_ct (fun t => decide (¬ (tr_th nb k pp w t &&& S) = 0)) n
theorem tr_ct_le (w : Nat) (S : Int32) (n : Nat) : tr_ct nb k pp w S n ≤ n := fb_ct_le _ n
theorem tr_manyL (H : tr_H nb g k pp t_pips t_many t_berths t_goal h) (A : tr_A nb k pp s ca wi tu many ever) {w : Nat} (hw : w < 2) (S : Int32) : ∀ (m t : Nat), t ≤ tr_N k → tr_N k + 1 ≤ t + m → fX0_manyOpening_L5 ca wi tu many S (nI w) m (nI (tr_ct nb k pp w S t)) (nI t) = some (nI (tr_ct nb k pp w S (tr_N k)), nI (tr_N k))
  | 0, t, h1, h2 => by omega
  | m + 1, t, h1, h2 => by
    have hN := (tr_N_le H).2
    rw [fX0_manyOpening_L5]
    by_cases hz : tr_N k ≤ t
    · have e : t = tr_N k := by omega
      subst e
      rw [if_pos (by rw [A.1]; exact nI_le (Nat.le_refl _) (by omega))]
    · rw [if_neg (by rw [A.1]; exact nI_ge (by omega) (by omega)), tr_thrown H A (by omega) hw, b1_some]
      have hv : (if (tr_th nb k pp w t &&& S) = 0 then some (nI (tr_ct nb k pp w S t)) else (tg_nm (nI (tr_ct nb k pp w S t) + 1) fun v => some v)) = some (nI (tr_ct nb k pp w S (t + 1))) := by
        unfold tr_ct
        rw [fb_ct_succ]
        by_cases e : (tr_th nb k pp w t &&& S) = 0
        · rw [if_pos e, if_neg (by simp [e]), Nat.add_zero]
        · rw [if_neg e, if_pos (by simp [e]), nm_is, nI_1]
      rw [hv, b1_some, nm_is, nI_1]
      exact tr_manyL H A hw S m (t + 1) (by omega) (by omega)
theorem tr_many (H : tr_H nb g k pp t_pips t_many t_berths t_goal h) (A : tr_A nb k pp s ca wi tu many ever) {w : Nat} (hw : w < 2) (S : Int32) : fX0_manyOpening ca wi tu many S (nI w) = some (nI (tr_ct nb k pp w S (tr_N k))) := by
  have hN := (tr_N_le H).2
  have := tr_manyL H A hw S 400 0 (by omega) (by omega)
  unfold fX0_manyOpening
  exact (congrArg (fun o => tg_b2 o _) this).trans rfl
def tr_sm (nb : Nat) (k : Nat → Nat) (pp : Nat → Nat → Nat) (w : Nat) (S : Int32) (n : Nat) : Nat := fb_sm (fun t => PC (tr_th nb k pp w t &&& S)) n
theorem tr_sumL (H : tr_H nb g k pp t_pips t_many t_berths t_goal h) (A : tr_A nb k pp s ca wi tu many ever) {w : Nat} (hw : w < 2) (S : Int32) : ∀ (m t : Nat), t ≤ tr_N k → tr_N k + 1 ≤ t + m → fX0_sumOpening_L5 ca wi tu many S (nI w) m (nI (tr_sm nb k pp w S t)) (nI t) = some (nI (tr_sm nb k pp w S (tr_N k)), nI (tr_N k))
  | 0, t, h1, h2 => by omega
  | m + 1, t, h1, h2 => by
    have hN := (tr_N_le H).2
    rw [fX0_sumOpening_L5]
    by_cases hz : tr_N k ≤ t
    · have e : t = tr_N k := by omega
      subst e
      rw [if_pos (by rw [A.1]; exact nI_le (Nat.le_refl _) (by omega))]
    · rw [if_neg (by rw [A.1]; exact nI_ge (by omega) (by omega)), tr_thrown H A (by omega) hw, b1_some, bc_PC, b1_some, nm_is, nI_add, nm_is, nI_1]
      exact tr_sumL H A hw S m (t + 1) (by omega) (by omega)
theorem tr_sum (H : tr_H nb g k pp t_pips t_many t_berths t_goal h) (A : tr_A nb k pp s ca wi tu many ever) {w : Nat} (hw : w < 2) (S : Int32) : fX0_sumOpening ca wi tu many S (nI w) = some (nI (tr_sm nb k pp w S (tr_N k))) := by
  have hN := (tr_N_le H).2
  have := tr_sumL H A hw S 400 0 (by omega) (by omega)
  unfold fX0_sumOpening
  exact (congrArg (fun o => tg_b2 o _) this).trans rfl
theorem tr_hasBit (x : Int32) {b : Nat} (hb : b < 32) : fX4_hasBit x (nI b) = some (if bt x b then 1 else 0) := by
  unfold fX4_hasBit fX4_bit
  rw [b1_some]
  by_cases e : bt x b = true
  · rw [if_neg (fun q => by rw [(bt_has x hb).mp q] at e; cases e), if_pos e]
  · have e2 : bt x b = false := by cases q : bt x b with
      | false => rfl
      | true => exact absurd q e
    rw [if_pos ((bt_has x hb).mpr e2), if_neg e]
def tr_st (nb : Nat) (k : Nat → Nat) (pp : Nat → Nat → Nat) (w b n : Nat) : Nat := fb_ct (fun t => bt (tr_o nb k pp w t) b) n
theorem tr_stillL (H : tr_H nb g k pp t_pips t_many t_berths t_goal h) (A : tr_A nb k pp s ca wi tu many ever) {w b : Nat} (hw : w < 2) (hb : b < 32) : ∀ (m t : Nat), t ≤ tr_N k → tr_N k + 1 ≤ t + m → fX0_manyStill_L5 ca wi many (nI b) (nI w) m (nI (tr_st nb k pp w b t)) (nI t) = some (nI (tr_st nb k pp w b (tr_N k)), nI (tr_N k))
  | 0, t, h1, h2 => by omega
  | m + 1, t, h1, h2 => by
    have hN := (tr_N_le H).2
    rw [fX0_manyStill_L5]
    by_cases hz : tr_N k ≤ t
    · have e : t = tr_N k := by omega
      subst e
      rw [if_pos (by rw [A.1]; exact nI_le (Nat.le_refl _) (by omega))]
    · rw [if_neg (by rw [A.1]; exact nI_ge (by omega) (by omega)), tr_still H A (by omega) hw, b1_some, tr_hasBit _ hb, b1_some]
      have hv : (if (if bt (tr_o nb k pp w t) b = true then (1 : Int32) else 0) = 0 then some (nI (tr_st nb k pp w b t)) else (tg_nm (nI (tr_st nb k pp w b t) + 1) fun v => some v)) = some (nI (tr_st nb k pp w b (t + 1))) := by
        unfold tr_st
        rw [fb_ct_succ]
        cases e : bt (tr_o nb k pp w t) b
        · rfl
        · rw [if_neg (by decide), if_pos rfl, nm_is, nI_1]
      rw [hv, b1_some, nm_is, nI_1]
      exact tr_stillL H A hw hb m (t + 1) (by omega) (by omega)
theorem tr_stillN (H : tr_H nb g k pp t_pips t_many t_berths t_goal h) (A : tr_A nb k pp s ca wi tu many ever) {w b : Nat} (hw : w < 2) (hb : b < 32) : fX0_manyStill ca wi many (nI b) (nI w) = some (nI (tr_st nb k pp w b (tr_N k))) := by
  have hN := (tr_N_le H).2
  have := tr_stillL H A hw hb 400 0 (by omega) (by omega)
  unfold fX0_manyStill
  exact (congrArg (fun o => tg_b2 o _) this).trans rfl
/-- the first throw that opens b, from t on -/
def tr_fst (nb : Nat) (k : Nat → Nat) (pp : Nat → Nat → Nat) (w b : Nat) : Nat → Nat → Int32
  | 0, _ => -9
  | m + 1, t => if bt (tr_o nb k pp w t) b then nI (tr_sh k pp t) else tr_fst nb k pp w b m (t + 1)
theorem tr_firstL (H : tr_H nb g k pp t_pips t_many t_berths t_goal h) (A : tr_A nb k pp s ca wi tu many ever) {w b : Nat} (hw : w < 2) (hb : b < 32) : ∀ (m t : Nat), t ≤ tr_N k → tr_N k + 1 ≤ t + m → fX0_firstStill_L2 s ca wi many (nI b) (nI w) m (nI t) = some (tr_fst nb k pp w b (tr_N k - t) t)
  | 0, t, h1, h2 => by omega
  | m + 1, t, h1, h2 => by
    have hN := (tr_N_le H).2
    rw [fX0_firstStill_L2]
    by_cases hz : tr_N k ≤ t
    · have e : t = tr_N k := by omega
      subst e
      rw [if_pos (by rw [A.1]; exact nI_le (Nat.le_refl _) (by omega)), Nat.sub_self]; rfl
    · rw [if_neg (by rw [A.1]; exact nI_ge (by omega) (by omega)), tr_still H A (by omega) hw, b1_some, tr_hasBit _ hb, b1_some]
      rw [show tr_N k - t = (tr_N k - (t + 1)) + 1 by omega, tr_fst]
      cases e : bt (tr_o nb k pp w t) b
      · rw [if_pos (by rfl), if_neg (by decide), nm_is, nI_1]
        exact tr_firstL H A hw hb m (t + 1) (by omega) (by omega)
      · rw [if_neg (by decide), if_pos rfl, ck_nI (by omega) (by decide), cl_nI (by omega), (A.2.1 t (by omega)).1]
theorem tr_first (H : tr_H nb g k pp t_pips t_many t_berths t_goal h) (A : tr_A nb k pp s ca wi tu many ever) {w b : Nat} (hw : w < 2) (hb : b < 32) : fX0_firstStill s ca wi many (nI b) (nI w) = some (tr_fst nb k pp w b (tr_N k) 0) := by
  have hN := (tr_N_le H).2
  exact tr_firstL H A hw hb 400 0 (by omega) (by omega)
/-! the reference counts them anew -/
theorem tr_throwsOf (H : tr_H nb g k pp t_pips t_many t_berths t_goal h) : fX5_throwsOf h = some (nI (tr_N k)) := by
  unfold fX5_throwsOf
  rw [show fX5_faces h 0 = _ from tr_faces H (d := 0) (by omega), b1_some, show fX5_faces h 1 = _ from tr_faces H (d := 1) (by omega), b1_some, show fX5_faces h 2 = _ from tr_faces H (d := 2) (by omega), b1_some, pk_mul, pk_mul]
  rfl
theorem tr_comes (H : tr_H nb g k pp t_pips t_many t_berths t_goal h) {t : Nat} (ht : t < tr_N k) : fX5_comes h (nI t) = some (nI (tr_a k pp t), nI (tr_b k pp t), nI (tr_c k pp t)) := by
  have hN := (tr_N_le H).2
  have hk1 := tr_k H (d := 1) (by omega)
  have hk2 := tr_k H (d := 2) (by omega)
  obtain ⟨h0, h1, h2⟩ := tr_ijk H ht
  have q1 : t / k 2 ≤ t := Nat.div_le_self _ _
  unfold fX5_comes
  rw [show fX5_faces h 2 = _ from tr_faces H (d := 2) (by omega), b1_some, dz_ne (nI_ne0 hk2.1 (by omega)), show fX5_faces h 1 = _ from tr_faces H (d := 1) (by omega), b1_some, dz_ne (nI_ne0 hk1.1 (by omega)), pk_div (by omega) hk2.1 (by omega), pk_div (by omega) hk1.1 (by omega), show fX5_face h 0 _ = _ from tr_face H (d := 0) (by omega) h0, b1_some, dz_ne (nI_ne0 hk2.1 (by omega)), b1_some, dz_ne (nI_ne0 hk1.1 (by omega))]
  have r1 : nI (t / k 2) - nI (t / k 2) / nI (k 1) * nI (k 1) = nI (t / k 2 % k 1) := pk_rem (by omega) hk1.1 (by omega)
  have r2 : nI t - nI (t / k 2) * nI (k 2) = nI (t % k 2) := by
    rw [← pk_div (by omega) hk2.1 (by omega)]; exact pk_rem (by omega) hk2.1 (by omega)
  rw [r1, show fX5_face h 1 _ = _ from tr_face H (d := 1) (by omega) h1, b1_some, dz_ne (nI_ne0 hk2.1 (by omega)), r2, show fX5_face h 2 _ = _ from tr_face H (d := 2) (by omega) h2, b1_some]
  rfl
theorem tr_opThen (H : tr_H nb g k pp t_pips t_many t_berths t_goal h) {now : Nat → Int32} {w t : Nat} (hw : w < 2) (hnow : now 1 = nI w) (ht : t < tr_N k) : fX5_opensThen h now (nI (tr_a k pp t)) (nI (tr_b k pp t)) (nI (tr_c k pp t)) = some (tr_th nb k pp w t) := by
  obtain ⟨ha, hb, hc⟩ := tr_abc H ht
  unfold fX5_opensThen
  rw [tr_isDouble ha.2 hb.2 hc.2, b1_some, hnow]
  have hv : (if (if tr_al (tr_a k pp t) (tr_b k pp t) (tr_c k pp t) = 1 then (1 : Int32) else 0) = 0 then some (nI w) else some (1 - nI w)) = some (nI (tr_w2 k pp w t)) := by
    unfold tr_w2
    by_cases e2 : tr_al (tr_a k pp t) (tr_b k pp t) (tr_c k pp t) = 1
    · rw [if_pos e2, if_pos e2, if_neg (by decide), show (1 : Int32) = nI 1 from rfl, pk_sub (by omega)]
    · rw [if_neg e2, if_neg e2, if_pos rfl]
  rw [hv, b1_some, tr_O_m ha hb hc H.1.2.1 (tr_w2_lt hw) H.2.2.2.2.1, b1_some]
  rfl
theorem tr_forL (H : tr_H nb g k pp t_pips t_many t_berths t_goal h) {now : Nat → Int32} {w : Nat} (hw : w < 2) (hnow : now 1 = nI w) (S : Int32) : ∀ (m t : Nat) (o1 o2 o3 : Int32), t ≤ tr_N k → tr_N k + 1 ≤ t + m → ∃ q1 q2 q3, fX5_throwsFor_L4 h now S m o1 o2 o3 (nI (tr_ct nb k pp w S t)) (nI t) = some (q1, q2, q3, nI (tr_ct nb k pp w S (tr_N k)), nI (tr_N k))
  | 0, t, o1, o2, o3, h1, h2 => by omega
  | m + 1, t, o1, o2, o3, h1, h2 => by
    have hN := (tr_N_le H).2
    rw [fX5_throwsFor_L4, tr_throwsOf H, b1_some]
    by_cases hz : tr_N k ≤ t
    · have e : t = tr_N k := by omega
      subst e
      rw [if_pos (nI_le (Nat.le_refl _) (by omega))]
      exact ⟨_, _, _, rfl⟩
    · rw [if_neg (nI_ge (by omega) (by omega)), tr_comes H (by omega), b3_some, tr_opThen H hw hnow (by omega), b1_some]
      have hv : (if (tr_th nb k pp w t &&& S) = 0 then some (0 : Int32) else some (1 : Int32)) = some (nI (if decide (¬ (tr_th nb k pp w t &&& S) = 0) = true then 1 else 0)) := by
        by_cases e : (tr_th nb k pp w t &&& S) = 0
        · rw [if_pos e, if_neg (by simp [e])]; rfl
        · rw [if_neg e, if_pos (by simp [e])]; rfl
      rw [hv, b1_some, nm_is, nI_add, nm_is, nI_1]
      exact tr_forL H hw hnow S m (t + 1) _ _ _ (by omega) (by omega)
theorem tr_for (H : tr_H nb g k pp t_pips t_many t_berths t_goal h) {now : Nat → Int32} {w : Nat} (hw : w < 2) (hnow : now 1 = nI w) (S o1 o2 o3 : Int32) : ∃ q1 q2 q3, fX5_throwsFor h now o1 o2 o3 S = some (nI (tr_ct nb k pp w S (tr_N k)), q1, q2, q3) := by
  have hN := (tr_N_le H).2
  obtain ⟨q1, q2, q3, e⟩ := tr_forL H hw hnow S 400 0 o1 o2 o3 (by omega) (by omega)
  refine ⟨q1, q2, q3, ?_⟩
  unfold fX5_throwsFor
  exact (congrArg (fun o => tg_b5 o _) e).trans rfl
theorem tr_evL (H : tr_H nb g k pp t_pips t_many t_berths t_goal h) : ∀ (m t : Nat) (o1 o2 o3 : Int32), t ≤ tr_N k → tr_N k + 1 ≤ t + m → ∃ q1 q2 q3, fX5_ever_L4 h m o1 o2 o3 (tr_ev nb k pp t) (nI t) = some (q1, q2, q3, tr_ev nb k pp (tr_N k), nI (tr_N k))
  | 0, t, o1, o2, o3, h1, h2 => by omega
  | m + 1, t, o1, o2, o3, h1, h2 => by
    have hN := (tr_N_le H).2
    rw [fX5_ever_L4, tr_throwsOf H, b1_some]
    by_cases hz : tr_N k ≤ t
    · have e : t = tr_N k := by omega
      subst e
      rw [if_pos (nI_le (Nat.le_refl _) (by omega))]
      exact ⟨_, _, _, rfl⟩
    · obtain ⟨ha, hb, hc⟩ := tr_abc H (show t < tr_N k by omega)
      rw [if_neg (nI_ge (by omega) (by omega)), tr_comes H (by omega), b3_some, show fX5_opened h _ _ _ 0 = _ from tr_O_m (w := 0) ha hb hc H.1.2.1 (by decide) H.2.2.2.2.1, b1_some, show fX5_opened h _ _ _ 1 = _ from tr_O_m (w := 1) ha hb hc H.1.2.1 (by decide) H.2.2.2.2.1, b1_some, nm_is, nm_is, nI_1]
      exact tr_evL H m (t + 1) _ _ _ (by omega) (by omega)
theorem tr_everM (H : tr_H nb g k pp t_pips t_many t_berths t_goal h) (o1 o2 o3 : Int32) : ∃ q1 q2 q3, fX5_ever h o1 o2 o3 = some (tr_ev nb k pp (tr_N k), q1, q2, q3) := by
  have hN := (tr_N_le H).2
  obtain ⟨q1, q2, q3, e⟩ := tr_evL H 400 0 o1 o2 o3 (by omega) (by omega)
  refine ⟨q1, q2, q3, ?_⟩
  unfold fX5_ever
  exact (congrArg (fun o => tg_b5 o _) e).trans rfl
theorem tr_threwL (H : tr_H nb g k pp t_pips t_many t_berths t_goal h) {now : Nat → Int32} {w b : Nat} (hw : w < 2) (hb : b < 32) (hnow : now 1 = nI w) : ∀ (m t : Nat) (o1 o2 o3 f : Int32), t ≤ tr_N k → tr_N k + 1 ≤ t + m → ∃ q1 q2 q3, fX5_threw_L29 h now (nI b) m o1 o2 o3 (nI (tr_st nb k pp w b t)) f (nI t) = some (q1, q2, q3, nI (tr_st nb k pp w b (tr_N k)), (if tr_st nb k pp w b t = 0 then (if tr_st nb k pp w b (tr_N k) = 0 then f else tr_fst nb k pp w b (tr_N k - t) t) else f), nI (tr_N k))
  | 0, t, o1, o2, o3, f, h1, h2 => by omega
  | m + 1, t, o1, o2, o3, f, h1, h2 => by
    have hN := (tr_N_le H).2
    rw [fX5_threw_L29, tr_throwsOf H, b1_some]
    by_cases hz : tr_N k ≤ t
    · have e : t = tr_N k := by omega
      subst e
      rw [if_pos (nI_le (Nat.le_refl _) (by omega))]
      refine ⟨o1, o2, o3, ?_⟩
      by_cases e0 : tr_st nb k pp w b (tr_N k) = 0
      · rw [if_pos e0, if_pos e0]
      · rw [if_neg e0]
    · obtain ⟨ha, hb', hc⟩ := tr_abc H (show t < tr_N k by omega)
      rw [if_neg (nI_ge (by omega) (by omega)), tr_comes H (by omega), b3_some, hnow, tr_O_m ha hb' hc H.1.2.1 hw H.2.2.2.2.1, b1_some, show tr_O nb (tr_a k pp t) (tr_b k pp t) (tr_c k pp t) w = tr_o nb k pp w t from rfl, bt_sh1 _ hb]
      have hs : tr_st nb k pp w b (t + 1) = tr_st nb k pp w b t + (if bt (tr_o nb k pp w t) b = true then 1 else 0) := fb_ct_succ _ t
      have hle : tr_st nb k pp w b t ≤ t := fb_ct_le _ t
      have hmono : tr_st nb k pp w b (t + 1) ≤ tr_st nb k pp w b (tr_N k) := fb_ct_mono _ (by omega)
      have hf : tr_fst nb k pp w b (tr_N k - t) t = if bt (tr_o nb k pp w t) b = true then nI (tr_sh k pp t) else tr_fst nb k pp w b (tr_N k - (t + 1)) (t + 1) := by
        rw [show tr_N k - t = (tr_N k - (t + 1)) + 1 by omega]; rfl
      cases e : bt (tr_o nb k pp w t) b
      · rw [if_pos (by decide), b1_some, if_pos rfl, b1_some, if_pos rfl, b1_some, nm_is, nm_is, nI_1]
        rw [e, if_neg (by decide), Nat.add_zero] at hs
        rw [e, if_neg (by decide)] at hf
        obtain ⟨q1, q2, q3, e1⟩ := tr_threwL H hw hb hnow m (t + 1) (nI (tr_a k pp t)) (nI (tr_b k pp t)) (nI (tr_c k pp t)) f (by omega) (by omega)
        rw [hs] at e1
        refine ⟨q1, q2, q3, ?_⟩
        rw [Nat.add_zero] at e1
        rw [hf, ← e1, show nI (tr_st nb k pp w b t) + 0 = nI (tr_st nb k pp w b t) from nI_add _ 0]
      · rw [if_neg (by decide), b1_some, if_neg (by decide)]
        rw [e, if_pos rfl] at hs
        rw [e, if_pos rfl] at hf
        have hv : (if ¬ nI (tr_st nb k pp w b t) = 0 then some f else some (((100 * nI (tr_a k pp t)) + (10 * nI (tr_b k pp t))) + nI (tr_c k pp t))) = some (if tr_st nb k pp w b t = 0 then nI (tr_sh k pp t) else f) := by
          by_cases e0 : tr_st nb k pp w b t = 0
          · rw [e0, if_neg (fun q => q rfl), if_pos rfl, show (100 : Int32) = nI 100 from rfl, show (10 : Int32) = nI 10 from rfl, pk_mul, pk_mul, nI_add, nI_add]; rfl
          · rw [if_pos (nI_ne0 (by omega) (by omega)), if_neg e0]
        rw [hv, b1_some, if_neg (by decide), b1_some, nm_is, nm_is, nI_1, nI_1]
        obtain ⟨q1, q2, q3, e1⟩ := tr_threwL H hw hb hnow m (t + 1) (nI (tr_a k pp t)) (nI (tr_b k pp t)) (nI (tr_c k pp t)) (if tr_st nb k pp w b t = 0 then nI (tr_sh k pp t) else f) (by omega) (by omega)
        rw [hs, if_neg (Nat.succ_ne_zero _)] at e1
        refine ⟨q1, q2, q3, ?_⟩
        rw [hf, e1]
        by_cases e0 : tr_st nb k pp w b t = 0
        · rw [if_pos e0, if_pos e0, if_neg (by omega)]
        · rw [if_neg e0, if_neg e0]
end TRC

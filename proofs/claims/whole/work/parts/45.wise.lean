/-! faces; third; wise; cheap -/
def q_fd (pp : Nat → Nat → Nat) (d : Nat) (v : Int32) : Nat → Bool
  | 0 => false
  | i + 1 => q_fd pp d v i || decide (nI (pp d i) = v)
theorem q_fd_mono {pp : Nat → Nat → Nat} {d : Nat} {v : Int32} {i : Nat} : ∀ m, q_fd pp d v i = true → q_fd pp d v (i + m) = true
  | 0, h => h
  | m + 1, h => by
    show (q_fd pp d v (i + m) || _) = true
    rw [q_fd_mono m h, Bool.true_or]
theorem q_fd_ex {pp : Nat → Nat → Nat} {d : Nat} {v : Int32} : ∀ n, q_fd pp d v n = true → ∃ i, i < n ∧ nI (pp d i) = v
  | 0, h => by cases h
  | n + 1, h => by
    simp only [q_fd, Bool.or_eq_true, decide_eq_true_eq] at h
    rcases h with h | h
    · obtain ⟨i, hi, e⟩ := q_fd_ex n h
      exact ⟨i, by omega, e⟩
    · exact ⟨n, by omega, h⟩
section TRW
variable {nb g : Nat} {k : Nat → Nat} {pp : Nat → Nat → Nat} {t_pips t_many : Nat → Int32} {t_berths t_goal : Int32} {h at_ now : Nat → Int32} {s ca wi tu : Nat → Int32} {many ever : Int32}
theorem q_pipL (H : tr_H nb g k pp t_pips t_many t_berths t_goal h) {d : Nat} (hd : d < 3) (v : Int32) : ∀ (m i : Nat), i ≤ k d → k d + 1 ≤ i + m → q_fd pp d v i = false → fX3_hasPip_L2 t_pips t_many (nI d) v m (nI i) = some (if q_fd pp d v (k d) = true then 1 else 0)
  | 0, i, h1, h2, hf => by omega
  | m + 1, i, h1, h2, hf => by
    have hk := tr_k H hd
    rw [fX3_hasPip_L2, ck_nI hd (by decide), cl_nI (by omega), (H.2.1 d hd).2.1]
    by_cases hz : k d ≤ i
    · have e : i = k d := by omega
      subst e
      rw [if_pos (nI_le (Nat.le_refl _) (by omega)), hf, if_neg (by decide)]
    · have hlt : i < k d := by omega
      rw [if_neg (nI_ge hlt (by omega)), tr_pip H hd hlt, b1_some]
      by_cases q : nI (pp d i) = v
      · have : q_fd pp d v (i + 1) = true := by simp only [q_fd, Bool.or_eq_true, decide_eq_true_eq]; exact Or.inr q
        have h3 := q_fd_mono (k d - (i + 1)) this
        rw [show i + 1 + (k d - (i + 1)) = k d by omega] at h3
        rw [if_neg (fun z => z q), h3, if_pos rfl]
      · rw [if_pos q, nm_is, nI_1]
        exact q_pipL H hd v m (i + 1) (by omega) (by omega) (by simp only [q_fd, hf, Bool.false_or]; exact decide_eq_false q)
theorem q_hasPip (H : tr_H nb g k pp t_pips t_many t_berths t_goal h) {d : Nat} (hd : d < 3) (v : Int32) : fX3_hasPip t_pips t_many (nI d) v = some (if q_fd pp d v (k d) = true then 1 else 0) := by
  have hk := tr_k H hd
  exact q_pipL H hd v 400 0 (by omega) (by omega) rfl
theorem q_faceL (H : tr_H nb g k pp t_pips t_many t_berths t_goal h) {d : Nat} (hd : d < 3) (v : Int32) : ∀ (m i : Nat), i ≤ k d → k d + 1 ≤ i + m → fX5_isFace_L5 h (nI d) v m (if q_fd pp d v i = true then 1 else 0) (nI i) = some ((if q_fd pp d v (k d) = true then 1 else 0), nI (k d))
  | 0, i, h1, h2 => by omega
  | m + 1, i, h1, h2 => by
    have hk := tr_k H hd
    rw [fX5_isFace_L5, tr_faces H hd, b1_some]
    by_cases hz : k d ≤ i
    · have e : i = k d := by omega
      subst e
      rw [if_pos (nI_le (Nat.le_refl _) (by omega))]
    · have hlt : i < k d := by omega
      rw [if_neg (nI_ge hlt (by omega)), tr_face H hd hlt, b1_some, q_ifne]
      have hv : (if q_fd pp d v i = true then some (1 : Int32) else if ¬ nI (pp d i) = v then some (0 : Int32) else some (1 : Int32)) = some (if q_fd pp d v (i + 1) = true then 1 else 0) := by
        simp only [q_fd, Bool.or_eq_true, decide_eq_true_eq]
        by_cases a : q_fd pp d v i = true
        · rw [if_pos a, if_pos (Or.inl a)]
        · rw [if_neg a]
          by_cases b : nI (pp d i) = v
          · rw [if_neg (fun z => z b), if_pos (Or.inr b)]
          · rw [if_pos b, if_neg (fun z => z.elim a b)]
      rw [hv, b1_some, nm_is, nI_1]
      exact q_faceL H hd v m (i + 1) (by omega) (by omega)
theorem q_isFace (H : tr_H nb g k pp t_pips t_many t_berths t_goal h) {d : Nat} (hd : d < 3) (v : Int32) : fX5_isFace h (nI d) v = some (if q_fd pp d v (k d) = true then 1 else 0) := by
  have hk := tr_k H hd
  have := q_faceL H hd v 400 0 (by omega) (by omega)
  unfold fX5_isFace
  refine (congrArg (fun o => tg_b2 o _) this).trans ?_
  rw [b2_some, bz_if]
theorem q_face (H : tr_H nb g k pp t_pips t_many t_berths t_goal h) {d : Nat} (hd : d < 3) {v : Int32} (hf : q_fd pp d v (k d) = true) : ∃ a, (1 ≤ a ∧ a ≤ 9) ∧ v = nI a := by
  obtain ⟨i, hi, e⟩ := q_fd_ex _ hf
  exact ⟨pp d i, ((H.2.1 d hd).2.2.2 i hi).1, e.symm⟩
theorem q_thirdL (H : tr_H nb g k pp t_pips t_many t_berths t_goal h) {w a b z : Nat} (hw : w < 2) (w1 : at_ 6 = nI w) (w2 : now 1 = nI w) (ha : 1 ≤ a ∧ a ≤ 9) (hb : 1 ≤ b ∧ b ≤ 9) (hz : z < 32) : ∀ (m i : Nat) (acc : Int32), i ≤ k 2 → k 2 + 1 ≤ i + m → ∃ x, fX4_third_L40 t_pips t_many t_berths at_ (nI a) (nI b) (nI z) m acc (nI i) = some (x, nI (k 2)) ∧ fX5_third_L34 h now (nI a) (nI b) (nI z) m acc (nI i) = some (x, nI (k 2))
  | 0, i, acc, h1, h2 => by omega
  | m + 1, i, acc, h1, h2 => by
    have hk := tr_k H (d := 2) (by decide)
    rw [fX4_third_L40, fX5_third_L34, (H.2.1 2 (by decide)).2.1, show fX5_faces h 2 = _ from tr_faces H (d := 2) (by decide), b1_some]
    by_cases hq : k 2 ≤ i
    · have e : i = k 2 := by omega
      subst e
      rw [if_pos (nI_le (Nat.le_refl _) (by omega)), if_pos (nI_le (Nat.le_refl _) (by omega))]
      exact ⟨acc, rfl, rfl⟩
    · have hlt : i < k 2 := by omega
      have hc := ((H.2.1 2 (by decide)).2.2.2 i hlt).1
      unfold fX1_wind fX4_bit
      have X := tr_O_x ha hb hc H.1.2.1 hw
      have M := tr_O_m ha hb hc H.1.2.1 hw H.2.2.2.2.1
      rw [if_neg (nI_ge hlt (by omega)), if_neg (nI_ge hlt (by omega)), show fX3_pip t_pips 2 (nI i) = _ from tr_pip H (d := 2) (by decide) hlt, show fX5_face h 2 (nI i) = _ from tr_face H (d := 2) (by decide) hlt]
      simp only [b1_some, w1, w2, H.2.2.1, X, M, tr_hasBit _ hz, q_ifeq, bt_sh1 _ hz]
      rw [← H.2.2.1]
      cases e : bt (tr_O nb a b (pp 2 i) w) z
      · rw [if_neg (by decide), b1_some, if_pos (by decide), b1_some, nm_is, nm_is, nm_is, nI_1]
        have : acc ||| 0 = acc := b_ext (fun i _ => by rw [b_or, b_0, Bool.or_false])
        rw [this]
        exact q_thirdL H hw w1 w2 ha hb hz m (i + 1) acc (by omega) (by omega)
      · rw [if_pos rfl, nm_is, b1_some, if_neg (by decide), b1_some, nm_is, nm_is, nm_is, nI_1]
        exact q_thirdL H hw w1 w2 ha hb hz m (i + 1) _ (by omega) (by omega)
theorem q_wiseL (H : tr_H nb g k pp t_pips t_many t_berths t_goal h) (A : tr_A nb k pp s ca wi tu many ever) {w : Nat} (hw : w < 2) (w1 : at_ 6 = nI w) (w2 : now 1 = nI w) {fr : Int32} (ef : fX5_free h now = some fr) (gf : ∀ i, i < 32 → bt fr i = (decide (1 ≤ i ∧ i ≤ nb) && !(bt (at_ 0) i || bt (at_ 1) i))) (S : Int32) : ∀ (m j : Nat) (f1 f2 o1 o2 o3 : Int32), 1 ≤ j → j ≤ nb + 1 → nb + 2 ≤ j + m → ∃ x y q1 q2 q3, fX4_wise_L27 (nI nb) ca wi tu many at_ S m f1 f2 (nI j) = some (x, y, nI (nb + 1)) ∧ fX5_wise_L28 h now S m o1 o2 o3 f1 f2 (nI j) = some (q1, q2, q3, x, y, nI (nb + 1))
  | 0, j, f1, f2, o1, o2, o3, h1, h2, h3 => by omega
  | m + 1, j, f1, f2, o1, o2, o3, h1, h2, h3 => by
    have hnb := H.1.2.1
    rw [fX4_wise_L27, fX5_wise_L28, H.2.2.2.2.1]
    by_cases hj : nb < j
    · have e : j = nb + 1 := by omega
      subst e
      rw [if_pos (nI_lt hj (by omega)), if_pos (nI_lt hj (by omega))]
      exact ⟨f1, f2, o1, o2, o3, rfl, rfl⟩
    · rw [if_neg (nI_nlt (by omega) (by omega)), if_neg (nI_nlt (by omega) (by omega)), tr_hasBit S (show j < 32 by omega), b1_some, q_ifeq, bt_sh1 S (show j < 32 by omega)]
      cases e : bt S j
      · rw [if_neg (by decide), b2_some, if_pos (by decide), b5_some, nm_is, nm_is, nI_1]
        exact q_wiseL H A hw w1 w2 ef gf S m (j + 1) f1 f2 o1 o2 o3 (by omega) (by omega) (by omega)
      · unfold fX1_wind fX4_bit
        have hct : fX0_manyOpening ca wi tu many (((at_ 0 ||| at_ 1) ^^^ (-1)) &&& (((1 : Int32) <<< (nI j &&& 31)) ^^^ (-1))) (nI w) = some (nI (tr_ct nb k pp w (fr &&& (((1 : Int32) <<< (nI j &&& 31)) ^^^ (-1))) (tr_N k))) := by
          rw [tr_many H A hw]
          congr 2
          apply q_ct H hw
          intro i i1 i2
          rw [b_and, b_and, bt_not _ (by omega), b_or, gf i (by omega), decide_eq_true ⟨i1, i2⟩, Bool.true_and]
        obtain ⟨q1, q2, q3, e3⟩ := tr_for H hw w2 (fr &&& (((1 : Int32) <<< (nI j &&& 31)) ^^^ (-1))) o1 o2 o3
        rw [if_pos rfl, if_neg (by decide), r1_freeC, b1_some, b1_some, b1_some, w1, hct, b1_some, ef, b1_some, e3, b4_some]
        by_cases c1 : f1 = -9
        · rw [if_pos c1, if_pos c1, b1_some, b2_some, if_neg (by decide), b1_some, if_neg (by decide), b1_some, b5_some, nm_is, nm_is, nI_1]
          exact q_wiseL H A hw w1 w2 ef gf S m (j + 1) _ _ q1 q2 q3 (by omega) (by omega) (by omega)
        · rw [if_neg c1, if_neg c1]
          by_cases c2 : f2 ≤ nI (tr_ct nb k pp w (fr &&& (((1 : Int32) <<< (nI j &&& 31)) ^^^ (-1))) (tr_N k))
          · rw [if_pos c2, if_pos c2, b1_some, b2_some, if_pos rfl, b1_some, if_pos rfl, b1_some, b5_some, nm_is, nm_is, nI_1]
            exact q_wiseL H A hw w1 w2 ef gf S m (j + 1) _ _ q1 q2 q3 (by omega) (by omega) (by omega)
          · rw [if_neg c2, if_neg c2, b1_some, b2_some, if_neg (by decide), b1_some, if_neg (by decide), b1_some, b5_some, nm_is, nm_is, nI_1]
            exact q_wiseL H A hw w1 w2 ef gf S m (j + 1) _ _ q1 q2 q3 (by omega) (by omega) (by omega)
theorem q_gives (R : tr_1 nb g at_ now) (h0 : h 0 = nI nb) (hnb : nb ≤ 18) {p b : Nat} (hp : p < 2) (e7 : at_ 7 = nI p) (e0 : now 0 = nI p) : fX1_tidesFor at_ (nI b) = some (nI (PC (at_ (1 - p) &&& ((1 <<< (nI b &&& 31)) - 1)))) ∧ fX5_gives h now (nI b) = some (nI (PC (at_ (1 - p) &&& ((1 <<< (nI b &&& 31)) - 1)))) := by
  have e : (1 : Int32) - nI p = nI (1 - p) := pk_sub (a := 1) (by omega)
  unfold fX1_tidesFor fX5_gives fX4_bit
  constructor
  · rw [e7, e, r1_berthsOf (by omega), b1_some, b1_some, bc_PC, b1_some]
  · rw [e0, e, r1_berths R h0 hnb (by omega), b1_some, many_PC, b1_some]
theorem q_cheapL (R : tr_1 nb g at_ now) (h0 : h 0 = nI nb) (hnb : nb ≤ 18) {S : Int32} (hS : (∃ p, p < 2 ∧ at_ 7 = nI p ∧ now 0 = nI p) ∨ S = 0) : ∀ (m j : Nat) (f : Int32), 1 ≤ j → j ≤ nb + 1 → nb + 2 ≤ j + m → (f = -9 ∨ ∃ z, f = nI z) → ∃ x, fX4_cheap_L13 (nI nb) at_ S m f (nI j) = some (x, nI (nb + 1)) ∧ fX5_cheap_L11 h now S m f (nI j) = some (x, nI (nb + 1))
  | 0, j, f, h1, h2, h3, hf => by omega
  | m + 1, j, f, h1, h2, h3, hf => by
    rw [fX4_cheap_L13, fX5_cheap_L11, h0]
    by_cases hj : nb < j
    · have e : j = nb + 1 := by omega
      subst e
      rw [if_pos (nI_lt hj (by omega)), if_pos (nI_lt hj (by omega))]
      exact ⟨f, rfl, rfl⟩
    · rw [if_neg (nI_nlt (by omega) (by omega)), if_neg (nI_nlt (by omega) (by omega)), tr_hasBit S (show j < 32 by omega), b1_some, q_ifeq, bt_sh1 S (show j < 32 by omega)]
      cases e : bt S j
      · rw [if_neg (by decide), b1_some, if_pos (by decide), b1_some, nm_is, nm_is, nI_1]
        exact q_cheapL R h0 hnb hS m (j + 1) f (by omega) (by omega) (by omega) hf
      · rw [if_pos rfl, if_neg (show ¬ ¬ (if true = true then (1 : Int32) else 0) = 1 by decide)]
        by_cases c1 : f = -9
        · rw [if_pos c1, if_pos c1, b1_some, b1_some, nm_is, nm_is, nI_1]
          exact q_cheapL R h0 hnb hS m (j + 1) _ (by omega) (by omega) (by omega) (Or.inr ⟨j, rfl⟩)
        · obtain ⟨z, rfl⟩ := hf.resolve_left c1
          rcases hS with ⟨p, hp, e7, e0⟩ | rfl
          · obtain ⟨x1, x2⟩ := q_gives (b := j) R h0 hnb hp e7 e0
            obtain ⟨y1, y2⟩ := q_gives (b := z) R h0 hnb hp e7 e0
            rw [if_neg c1, if_neg c1, x1, b1_some, y1, b1_some, x2, b1_some, y2, b1_some]
            by_cases c2 : nI (PC (at_ (1 - p) &&& ((1 <<< (nI z &&& 31)) - 1))) ≤ nI (PC (at_ (1 - p) &&& ((1 <<< (nI j &&& 31)) - 1)))
            · rw [if_pos c2, b1_some, b1_some, nm_is, nm_is, nI_1]
              exact q_cheapL R h0 hnb (Or.inl ⟨p, hp, e7, e0⟩) m (j + 1) _ (by omega) (by omega) (by omega) (Or.inr ⟨z, rfl⟩)
            · rw [if_neg c2, b1_some, b1_some, nm_is, nm_is, nI_1]
              exact q_cheapL R h0 hnb (Or.inl ⟨p, hp, e7, e0⟩) m (j + 1) _ (by omega) (by omega) (by omega) (Or.inr ⟨j, rfl⟩)
          · rw [b_0] at e; cases e
end TRW
theorem s_third : sm_third tr_R := by
  intro x_text x_typed t_pips t_many t_berths t_goal r_fault r_length r_kind r_start r_next r_number r_dice r_bt r_gt d_pips d_many d_berths d_goal a_shown a_calm a_windy a_turns a_many a_ever c_at c_past c_known i_at i_past i_known j_at j_past j_known x_kept x_cb x_ct x_chalked x_traced m_text m_size m_at m_begin m_token m_told m_read m_harbour m_now m_undone m_undos m_one m_two m_three m_chalks m_cb m_co m_trace m_kept p1 p2 p3 hR
  have hR' := hR
  obtain ⟨nb, g, k, pp, H, A, U, I0, I1, Ck, X, tr⟩ := hR'
  have hnb := H.1.2.1
  have hg9 := H.1.2.2.2
  have hh0 := H.2.2.2.2.1
  have hh1 := H.2.2.2.2.2
  obtain rfl := H.2.2.1
  obtain rfl := H.2.2.2.1
  obtain rfl := A.1
  obtain ⟨w, hw, w1, w2⟩ := U.1.2.2.2.2.1
  unfold fX4_third fX5_third
  rw [show fX3_hasPip t_pips t_many 0 p1 = _ from q_hasPip H (d := 0) (by decide) p1, b1_some, q_ifeq, show fX3_hasPip t_pips t_many 1 p2 = _ from q_hasPip H (d := 1) (by decide) p2, b1_some, q_ifeq, show fX5_isFace m_harbour 0 p1 = _ from q_isFace H (d := 0) (by decide) p1, b1_some, q_ifeq, show fX5_isFace m_harbour 1 p2 = _ from q_isFace H (d := 1) (by decide) p2, b1_some, q_ifeq, q_isBerthC hnb, b1_some, q_ifne, q_isBerthM hnb hh0, b1_some, q_ifne]
  by_cases f1 : q_fd pp 0 p1 (k 0) = true
  · by_cases f2 : q_fd pp 1 p2 (k 1) = true
    · by_cases hb : 1 ≤ p3.toInt ∧ p3.toInt ≤ (nb : Int)
      · obtain ⟨a, ha, rfl⟩ := q_face H (by decide) f1
        obtain ⟨b, hb', rfl⟩ := q_face H (by decide) f2
        obtain ⟨z, z1, z2, rfl⟩ := q_berth hb
        obtain ⟨x, x1, x2⟩ := q_thirdL (at_ := c_at) (now := m_now) H hw w1 w2 ha hb' (show z < 32 by omega) 400 0 0 (by omega) (by have := tr_k H (d := 2) (by decide); omega)
        refine ⟨x, ?_, ?_, hR⟩
        · rw [if_pos f1, if_pos f2, if_pos hb]; exact (congrArg (fun o => tg_b2 o _) x1).trans rfl
        · rw [if_pos f1, if_pos f2, if_pos hb]; exact (congrArg (fun o => tg_b2 o _) x2).trans rfl
      · exact ⟨-1, by rw [if_pos f1, if_pos f2, if_neg hb], by rw [if_pos f1, if_pos f2, if_neg hb], hR⟩
    · exact ⟨-1, by rw [if_pos f1, if_neg f2], by rw [if_pos f1, if_neg f2], hR⟩
  · exact ⟨-1, by rw [if_neg f1], by rw [if_neg f1], hR⟩
theorem s_wise : sm_wise tr_R := by
  intro x_text x_typed t_pips t_many t_berths t_goal r_fault r_length r_kind r_start r_next r_number r_dice r_bt r_gt d_pips d_many d_berths d_goal a_shown a_calm a_windy a_turns a_many a_ever c_at c_past c_known i_at i_past i_known j_at j_past j_known x_kept x_cb x_ct x_chalked x_traced m_text m_size m_at m_begin m_token m_told m_read m_harbour m_now m_undone m_undos m_one m_two m_three m_chalks m_cb m_co m_trace m_kept p1 hR
  have hR' := hR
  obtain ⟨nb, g, k, pp, H, A, U, I0, I1, Ck, X, tr⟩ := hR'
  have hnb := H.1.2.1
  have hg9 := H.1.2.2.2
  have hh0 := H.2.2.2.2.1
  have hh1 := H.2.2.2.2.2
  obtain rfl := H.2.2.1
  obtain rfl := H.2.2.2.1
  obtain rfl := A.1
  obtain ⟨w, hw, w1, w2⟩ := U.1.2.2.2.2.1
  obtain ⟨fr, ef, gf⟩ := r1_freeM U.1 hh0 hnb
  obtain ⟨S, x1, x2, -, -⟩ := q_now3 U.1 hh0 hnb
  unfold fX4_wise fX5_wise
  rw [tr_isPart, b1_some, q_ifne, tr_in01, b1_some, q_ifne]
  by_cases hp : p1 = 0 ∨ p1 = 1
  · obtain ⟨x, y, q1, q2, q3, e1, e2⟩ := q_wiseL H A hw w1 w2 ef gf S 400 1 (-9) (-9) m_one m_two m_three (by omega) (by omega) (by omega)
    have e1' : fX4_wise_L27 (nI nb) a_calm a_windy a_turns (nI (tr_N k)) c_at S 400 (-9) (-9) 1 = _ := e1
    have e2' : fX5_wise_L28 m_harbour m_now S 400 m_one m_two m_three (-9) (-9) 1 = _ := e2
    rw [if_pos hp, if_pos hp, x1, b1_some, x2, b1_some, e1', e2', b3_some]
    rcases hp with rfl | rfl
    · exact ⟨x, q1, q2, q3, rfl, rfl, hR⟩
    · exact ⟨y, q1, q2, q3, rfl, rfl, hR⟩
  · exact ⟨-1, m_one, m_two, m_three, by rw [if_neg hp], by rw [if_neg hp], hR⟩
theorem s_cheap : sm_cheap tr_R := by
  intro x_text x_typed t_pips t_many t_berths t_goal r_fault r_length r_kind r_start r_next r_number r_dice r_bt r_gt d_pips d_many d_berths d_goal a_shown a_calm a_windy a_turns a_many a_ever c_at c_past c_known i_at i_past i_known j_at j_past j_known x_kept x_cb x_ct x_chalked x_traced m_text m_size m_at m_begin m_token m_told m_read m_harbour m_now m_undone m_undos m_one m_two m_three m_chalks m_cb m_co m_trace m_kept hR
  have hR' := hR
  obtain ⟨nb, g, k, pp, H, A, U, I0, I1, Ck, X, tr⟩ := hR'
  have hnb := H.1.2.1
  have hg9 := H.1.2.2.2
  have hh0 := H.2.2.2.2.1
  have hh1 := H.2.2.2.2.2
  obtain rfl := H.2.2.1
  obtain rfl := H.2.2.2.1
  obtain rfl := A.1
  obtain ⟨S, x1, x2, -, hS0⟩ := q_now3 U.1 hh0 hnb
  have hS : (∃ p, p < 2 ∧ c_at 7 = nI p ∧ m_now 0 = nI p) ∨ S = 0 := by
    obtain ⟨p, hp, e7, hc⟩ := U.1.2.2.2.2.2.2
    rcases hc with ⟨-, -, -, e0⟩ | ⟨q, hq, -, -, e, -⟩
    · exact Or.inl ⟨p, hp, e7, e0⟩
    · exact Or.inr (hS0 (by rw [e]; exact nI_m9 (by omega)))
  obtain ⟨x, e1, e2⟩ := q_cheapL U.1 hh0 hnb hS 400 1 (-9) (by omega) (by omega) (by omega) (Or.inl rfl)
  have e1' : fX4_cheap_L13 (nI nb) c_at S 400 (-9) 1 = _ := e1
  have e2' : fX5_cheap_L11 m_harbour m_now S 400 (-9) 1 = _ := e2
  refine ⟨x, ?_, ?_, hR⟩
  · unfold fX4_cheap; rw [x1, b1_some, e1', b2_some]
  · unfold fX5_cheap; rw [x2, b1_some, e2', b2_some]

/-! an item; the items -/
theorem b6_some {A0 A1 A2 A3 A4 A5 Z : Type} {a0 : A0} {a1 : A1} {a2 : A2} {a3 : A3} {a4 : A4} {a5 : A5} {k : A0 → A1 → A2 → A3 → A4 → A5 → Option Z} : tg_b6 (some (a0, a1, a2, a3, a4, a5)) k = k a0 a1 a2 a3 a4 a5 := rfl
theorem b8_some {A0 A1 A2 A3 A4 A5 A6 A7 Z : Type} {a0 : A0} {a1 : A1} {a2 : A2} {a3 : A3} {a4 : A4} {a5 : A5} {a6 : A6} {a7 : A7} {k : A0 → A1 → A2 → A3 → A4 → A5 → A6 → A7 → Option Z} : tg_b8 (some (a0, a1, a2, a3, a4, a5, a6, a7)) k = k a0 a1 a2 a3 a4 a5 a6 a7 := rfl
theorem b12_some {A0 A1 A2 A3 A4 A5 A6 A7 A8 A9 A10 A11 Z : Type} {a0 : A0} {a1 : A1} {a2 : A2} {a3 : A3} {a4 : A4} {a5 : A5} {a6 : A6} {a7 : A7} {a8 : A8} {a9 : A9} {a10 : A10} {a11 : A11} {k : A0 → A1 → A2 → A3 → A4 → A5 → A6 → A7 → A8 → A9 → A10 → A11 → Option Z} : tg_b12 (some (a0, a1, a2, a3, a4, a5, a6, a7, a8, a9, a10, a11)) k = k a0 a1 a2 a3 a4 a5 a6 a7 a8 a9 a10 a11 := rfl
theorem b13_some {A0 A1 A2 A3 A4 A5 A6 A7 A8 A9 A10 A11 A12 Z : Type} {a0 : A0} {a1 : A1} {a2 : A2} {a3 : A3} {a4 : A4} {a5 : A5} {a6 : A6} {a7 : A7} {a8 : A8} {a9 : A9} {a10 : A10} {a11 : A11} {a12 : A12} {k : A0 → A1 → A2 → A3 → A4 → A5 → A6 → A7 → A8 → A9 → A10 → A11 → A12 → Option Z} : tg_b13 (some (a0, a1, a2, a3, a4, a5, a6, a7, a8, a9, a10, a11, a12)) k = k a0 a1 a2 a3 a4 a5 a6 a7 a8 a9 a10 a11 a12 := rfl
theorem b14_some {A0 A1 A2 A3 A4 A5 A6 A7 A8 A9 A10 A11 A12 A13 Z : Type} {a0 : A0} {a1 : A1} {a2 : A2} {a3 : A3} {a4 : A4} {a5 : A5} {a6 : A6} {a7 : A7} {a8 : A8} {a9 : A9} {a10 : A10} {a11 : A11} {a12 : A12} {a13 : A13} {k : A0 → A1 → A2 → A3 → A4 → A5 → A6 → A7 → A8 → A9 → A10 → A11 → A12 → A13 → Option Z} : tg_b14 (some (a0, a1, a2, a3, a4, a5, a6, a7, a8, a9, a10, a11, a12, a13)) k = k a0 a1 a2 a3 a4 a5 a6 a7 a8 a9 a10 a11 a12 a13 := rfl
def h2 (k : Nat → Nat) (pp : Nat → Nat → Nat) (pips many h : Nat → Int32) : Prop := ∀ d, d < 3 → (1 ≤ k d ∧ k d ≤ 6) ∧ many d = nI (k d) ∧ h (4 + 7 * d) = nI (k d) ∧ ∀ i, i < k d → (1 ≤ pp d i ∧ pp d i ≤ 9) ∧ pips (d * 6 + i) = nI (pp d i) ∧ h (4 + 7 * d + 1 + i) = nI (pp d i)
theorem h2_c {k : Nat → Nat} {pp : Nat → Nat → Nat} {pips many h h' : Nat → Int32} (H : h2 k pp pips many h) (hr : ∀ x, 4 ≤ x → h' x = h x) : h2 k pp pips many h' := fun d hd => by
  obtain ⟨a, b, e, f⟩ := H d hd
  exact ⟨a, b, (hr _ (by omega)).trans e, fun i hi => ⟨(f i hi).1, (f i hi).2.1, (hr _ (by omega)).trans (f i hi).2.2⟩⟩
def Dr (pips many : Nat → Int32) (berths goal : Int32) (rd : Nat → Int32) (dice bb gg : Int32) : Prop := ∃ (nb g : Nat) (k : Nat → Nat) (pp : Nat → Nat → Nat) (dd vb vg : Nat), tr_H nb g k pp pips many berths goal rd ∧ dd ≤ 3 ∧ dice = nI dd ∧ rd 2 = nI dd ∧ vb < 2 ∧ bb = nI vb ∧ vg < 2 ∧ gg = nI vg ∧ rd 3 = nI (vb + 2 * vg)
section ITS
variable {c : Nat → Nat} {xt mt : Nat → Int32} {n : Nat}
theorem y_0 {kind num at_ token told : Int32} {s e : Nat} (K : Tk c n kind s e num at_ token told) : (kind = 0 ∧ token = 0) ∨ (¬ kind = 0 ∧ ¬ token = 0) := by
  rcases K with h | ⟨rfl, -, -, -, h⟩ | ⟨rfl, rfl, -⟩ | ⟨rfl, rfl, h⟩ | ⟨rfl, rfl, -⟩
  · exact Or.inl h
  · refine Or.inr ⟨by decide, ?_⟩
    rcases h with ⟨-, -, rfl, -⟩ | ⟨-, rfl⟩ <;> decide
  · exact Or.inr ⟨by decide, by decide⟩
  · exact Or.inr ⟨by decide, by decide⟩
  · exact Or.inr ⟨by decide, by decide⟩
theorem y_code (t : TX c xt mt n) {kind num at_ token told : Int32} {s e : Nat} (hs : s < n) (K : Tk c n kind s e num at_ token told) : ∃ w, (if ¬ kind = 1 then some (32 : Int32) else if ¬ (nI e - nI s) = 1 then some 32 else tg_ck (nI s) 120 <| some (xt (Int32.toNatClampNeg (nI s)))) = some w ∧ ((token = 1 ∧ e = s + 1 ∧ (c s = 100 ∨ c s = 98 ∨ c s = 103) ∧ w = nI (c s) ∧ told = nI (c s) ∧ at_ = nI e) ∨ (¬ token = 1 ∧ ¬ w = 100 ∧ ¬ w = 98 ∧ ¬ w = 103)) := by
  have hn := t.1
  obtain ⟨g1, g2, g3⟩ := t.2 s hs
  rcases K with ⟨rfl, rfl⟩ | ⟨rfl, h1, h2, h3, h⟩ | ⟨rfl, rfl, -⟩ | ⟨rfl, rfl, h⟩ | ⟨rfl, rfl, -⟩
  · exact ⟨32, by rw [if_pos (by decide)], Or.inr ⟨by decide, by decide, by decide, by decide⟩⟩
  · rw [if_neg (fun q => q rfl), pk_sub (by omega), ck_nI (show s < 120 by omega) (by decide), cl_nI (by omega), g2]
    rcases h with ⟨q1, q2, q3, q4⟩ | ⟨q1, q2⟩
    · exact ⟨nI (c s), by rw [if_neg (fun z => z (by rw [q1, show s + 1 - s = 1 by omega]; rfl))], Or.inl ⟨q3, q1, q2, rfl, q4, h3⟩⟩
    · by_cases z : e - s = 1
      · refine ⟨nI (c s), by rw [if_neg (fun y => y (by rw [z]; rfl))], Or.inr ⟨by rw [q2]; decide, ?_, ?_, ?_⟩⟩
        · exact y_ne (b := 100) (by omega) (by decide) (fun y => q1 ⟨by omega, Or.inl y⟩)
        · exact y_ne (b := 98) (by omega) (by decide) (fun y => q1 ⟨by omega, Or.inr (Or.inl y)⟩)
        · exact y_ne (b := 103) (by omega) (by decide) (fun y => q1 ⟨by omega, Or.inr (Or.inr y)⟩)
      · exact ⟨32, by rw [if_pos (show ¬ nI (e - s) = (1 : Int32) from y_ne (b := 1) (by omega) (by decide) z)], Or.inr ⟨by rw [q2]; decide, by decide, by decide, by decide⟩⟩
  · exact ⟨32, by rw [if_pos (by decide)], Or.inr ⟨by decide, by decide, by decide, by decide⟩⟩
  · exact ⟨32, by rw [if_pos (by decide)], Or.inr ⟨by decide, by decide, by decide, by decide⟩⟩
  · exact ⟨32, by rw [if_pos (by decide)], Or.inr ⟨by decide, by decide, by decide, by decide⟩⟩
theorem y_item (t : TX c xt mt n) {kind num at_ token told berths goal dice bb gg : Int32} {pips many rd : Nat → Int32} {s e : Nat} (hs : s < n) (he : e ≤ n) (K : Tk c n kind s e num at_ token told) (D : Dr pips many berths goal rd dice bb gg) : (∃ (f : Nat) (a1 a2 a3 a4 a5 a6 a7 : Int32) (a8 a9 : Nat → Int32) (a10 a11 b1 b2 b3 : Int32) (b4 : Nat → Int32), f < 2 ^ 31 ∧ fX2_readItem (-9) (nI n) kind (nI s) (nI e) num dice bb gg pips many berths goal xt = some (nI f, a1, a2, a3, a4, a5, a6, a7, a8, a9, a10, a11) ∧ fX5_readItem mt (nI n) at_ (nI s) token told rd = some (0, b1, nI f, b2, b3, b4)) ∨ (∃ (kind' : Int32) (s' e' : Nat) (num' dice' bb' gg' : Int32) (pips' many' : Nat → Int32) (berths' goal' b1 b2 b3 b4 : Int32) (rd' : Nat → Int32) (at' token' told' : Int32), fX2_readItem (-9) (nI n) kind (nI s) (nI e) num dice bb gg pips many berths goal xt = some (-9, kind', nI s', nI e', num', dice', bb', gg', pips', many', berths', goal') ∧ fX5_readItem mt (nI n) at_ (nI s) token told rd = some (1, b1, b2, b3, b4, rd') ∧ fX5_reads mt (nI n) b1 b4 = some (at', nI s', token', told') ∧ s < s' ∧ s' ≤ n ∧ e' ≤ n ∧ (¬ kind' = 0 → s' < n) ∧ Tk c n kind' s' e' num' at' token' told' ∧ Dr pips' many' berths' goal' rd' dice' bb' gg') := by
  have hn := t.1
  obtain ⟨w, hw, hc⟩ := y_code t hs K
  have hrf : fX2_refuse (-9) (nI s) = some (nI s) := by unfold fX2_refuse; rw [if_neg (fun q => q rfl)]
  obtain ⟨nb, g, k, pp, dd, vb, vg, H, d1, rfl, d3, d4, rfl, d6, rfl, d8⟩ := D
  unfold fX2_readItem fX5_readItem
  rw [hw, b1_some]
  rcases hc with ⟨rfl, rfl, hcs, rfl, rfl, rfl⟩ | ⟨h1, h2, h3, h4⟩
  · rw [if_pos (show (1 : Int32) = 1 from rfl)]
    rcases hcs with hcs | hcs | hcs
    · rw [hcs, if_neg (show ¬ ¬ nI 100 = (100 : Int32) from fun q => q rfl), if_neg (show ¬ ¬ nI 100 = (100 : Int32) from fun q => q rfl)]
      unfold fX5_readDie
      by_cases h3 : dd = 3
      · subst h3
        left
        rw [if_pos (show (3 : Int32) ≤ nI 3 by decide), if_pos (show ¬ nI 100 = (98 : Int32) by decide), if_pos (show ¬ nI 100 = (103 : Int32) by decide), hrf, b1_some, d3, nm_is, if_pos (show nI 3 = (3 : Int32) from rfl), b6_some, y_bz0]
        exact ⟨s, _, _, _, _, _, _, _, _, _, _, _, _, _, _, _, by omega, rfl, rfl⟩
      · have hdd : dd < 3 := by omega
        rw [if_neg (show ¬ (3 : Int32) ≤ nI dd from nI_ge (b := 3) hdd (by decide)), d3, nm_is, if_neg (show ¬ nI dd = (3 : Int32) from y_ne (b := 3) (by omega) (by decide) h3), show (4 : Int32) + 7 * nI dd = nI (4 + 7 * dd) by rw [show (7 : Int32) = nI 7 from rfl, pk_mul, show (4 : Int32) = nI 4 from rfl, nI_add]]
        obtain ⟨k1, s1, e1, num1, at1, tk1, td1, g1, g2, g3, g4, g5, g6, K1⟩ := y_adv t he num (nI 100)
        unfold fX2_readDie fX5_number
        rw [g1, b4_some, g2, b4_some]
        rcases y_num (A := Int32.toInt64 1) (B := Int32.toInt64 9) K1 (lo := 1) (hi := 9) (by decide) (by decide) rfl rfl with ⟨v, v1, v2, rfl, rfl, rfl, rfl, rfl, hse, i1, i2⟩ | ⟨i1, i2⟩
        · obtain ⟨kind', s', e', num', pips', j, at', token', told', r, rd', q', r1, r2, r3, r4, r5, r6, r7, r8, r9, r10, r11, r12⟩ := y_dieL t hdd 400 0 2 (nI v) (nI e1) 2 (nI v) s1 e1 pips rd (fun _ => 0) (by omega) (by omega) g4 g5 g6 K1 (fun l hl => by omega)
          have hj : 1 ≤ j := r11 rfl ⟨v, v1, v2, rfl, rfl⟩
          rw [if_neg (fun q => q rfl), i2, b1_some, if_neg (show ¬ (1 : Int32) = 0 by decide), b5_some, if_pos (show ¬ (1 : Int32) = 0 by decide), show fX5_readDie_L36 mt (nI n) (nI (4 + 7 * dd)) 400 (nI e1) (nI s1) 2 (nI v) rd 0 = _ from r2, b6_some, show fX2_readDie_L6 (nI n) (nI dd) xt 400 2 (nI s1) (nI e1) (nI v) pips 0 = _ from r1, b6_some, if_pos (show ¬ nI j = (0 : Int32) from y_ne (b := 0) (by omega) (by decide) (by omega)), b1_some, ck_nI hdd (by decide), cl_nI (by omega), nm_is, nm_is, nI_1, b8_some]
          rcases y_stop t r7 r8 with ⟨t3, kind2, s2, e2, num2, at2, token2, told2, z1, z2, z3, z4, z5, z6, z7⟩ | ⟨t3, z1⟩
          · rcases r12 with ⟨-, rfl, w1, w2, w3, w4⟩ | ⟨w, -⟩
            · right
              rw [z1, b5_some, y_bz1]
              refine ⟨kind2, s2, e2, num2, _, _, _, _, _, _, _, at', nI s', token', told', rd', at2, token2, told2, rfl, rfl, z2, by omega, z4, z5, z6, z7, nb, g, (fun d => if d = dd then j else k d), (fun d i => if d = dd then q' i else pp d i), dd + 1, vb, vg, ⟨H.1, fun d hd => ?_, H.2.2.1, H.2.2.2.1, (w4 0 (by omega) (by omega)).trans H.2.2.2.2.1, (w4 1 (by omega) (by omega)).trans H.2.2.2.2.2⟩, by omega, rfl, by rw [w2, d3, nI_1], d4, rfl, d6, rfl, (w4 3 (by omega) (by omega)).trans d8⟩
              by_cases y : d = dd
              · subst y
                simp only [if_true]
                exact ⟨⟨hj, r4⟩, u_at, w1, fun i hi => ⟨(r9 i hi).1, (r9 i hi).2, w3 i hi⟩⟩
              · obtain ⟨x1, x2, x3, x4⟩ := H.2.1 d hd
                simp only [if_neg y]
                exact ⟨x1, (u_no y).trans x2, (w4 _ (by omega) (by omega)).trans x3, fun i hi => ⟨(x4 i hi).1, (r10 _ (by omega)).trans (x4 i hi).2.1, (w4 _ (by omega) (by omega)).trans (x4 i hi).2.2⟩⟩
            · exact absurd t3 w
          · rcases r12 with ⟨w, -⟩ | ⟨-, rfl⟩
            · exact absurd w t3
            · left
              rw [z1, b5_some, y_bz0]
              exact ⟨s', _, _, _, _, _, _, _, _, _, _, _, _, _, _, _, by omega, rfl, rfl⟩
        · left
          have l6 : fX2_readDie_L6 (nI n) (nI dd) xt 400 k1 (nI s1) (nI e1) num1 pips 0 = some (k1, nI s1, nI e1, num1, pips, 0) := by
            rw [show (400 : Nat) = 399 + 1 from rfl, fX2_readDie_L6, if_neg (by decide), show fX2_isNumber k1 num1 1 9 = _ from i1, b1_some, if_pos rfl]
          have hrf1 : fX2_refuse (-9) (nI s1) = some (nI s1) := by unfold fX2_refuse; rw [if_neg (fun q => q rfl)]
          obtain ⟨a1, a2, a3, a4, st⟩ := y_stopF t g5 (show s1 < 2 ^ 31 by omega) k1 (nI s1) num1
          rw [l6, b6_some, if_neg (show ¬ ¬ (0 : Int32) = 0 by decide), hrf1, b1_some, b1_some, ck_nI hdd (by decide), nm_is, nm_is, b8_some, st, b5_some]
          refine ⟨s1, _, _, _, _, _, _, _, _, _, _, _, at1, tk1, td1, rd, by omega, rfl, ?_⟩
          rcases i2 with ⟨i2, -⟩ | ⟨i2, -, i3⟩
          · rw [if_pos i2, b5_some, if_neg (by decide), b6_some, y_bz0]
          · rw [if_neg (fun q => q i2), i3, b1_some, if_pos rfl, b5_some, if_neg (by decide), b6_some, y_bz0]
    · rw [hcs, if_pos (show ¬ nI 98 = (100 : Int32) by decide), if_neg (show ¬ ¬ nI 98 = (98 : Int32) from fun q => q rfl), if_pos (show ¬ nI 98 = (100 : Int32) by decide), if_neg (show ¬ ¬ nI 98 = (98 : Int32) from fun q => q rfl)]
      by_cases hv : vb = 1
      · left
        subst hv
        have h31 : ¬ rd 3 &&& 1 = 0 := by
          rw [d8]
          rcases (show vg = 0 ∨ vg = 1 by omega) with rfl | rfl <;> decide
        unfold fX5_once
        rw [if_pos (show ¬ nI 1 = (0 : Int32) by decide), if_pos (show ¬ nI 98 = (103 : Int32) by decide), hrf, b1_some, if_pos h31, b6_some, y_bz0]
        exact ⟨s, _, _, _, _, _, _, _, _, _, _, _, _, _, _, _, by omega, rfl, rfl⟩
      · have hv0 : vb = 0 := by omega
        subst hv0
        have h31 : rd 3 &&& 1 = 0 := by
          rw [d8]
          rcases (show vg = 0 ∨ vg = 1 by omega) with rfl | rfl <;> decide
        rw [if_neg (show ¬ ¬ nI 0 = (0 : Int32) from fun q => q rfl)]
        rcases y_once t he (lo := 3) (hi := 18) (j := 0) (by decide) (by decide) rfl rfl (by decide) num (nI s) 1 (nI 98) 1 rd h31 with ⟨rr, fa, k', st, nx, nm, f, a1, a2, a3, a4, b1, b2, b3, b4, q0, q1, q2, q3⟩ | ⟨v, k', st, nx, nm, kind', s', e', num', at', token', told', b1, b2, b3, b4, v1, v2, q1, q2, q3, q4, q5, q6, q7, q8, q9⟩
        · left
          rw [show fX2_readNumber (-9) (nI n) (nI (s + 1)) num xt 3 18 = _ from q1, b6_some, q2, b5_some, show fX5_once mt (nI n) (nI (s + 1)) (nI s) 1 (nI 98) rd 1 0 3 18 = _ from q3, b6_some, y_bz0]
          exact ⟨f, _, _, _, _, _, _, _, _, _, _, _, _, _, _, _, q0, rfl, rfl⟩
        · right
          rw [show fX2_readNumber (-9) (nI n) (nI (s + 1)) num xt 3 18 = _ from q1, b6_some, q2, b5_some, show fX5_once mt (nI n) (nI (s + 1)) (nI s) 1 (nI 98) rd 1 0 3 18 = _ from q3, b6_some, y_bz1]
          refine ⟨kind', s', e', num', _, _, _, _, _, _, _, _, _, _, _, _, at', token', told', rfl, rfl, q4, by omega, q6, q7, q8, q9, v, g, k, pp, dd, 1, vg, ⟨⟨v1, v2, H.1.2.2⟩, h2_c H.2.1 (fun x hx => by rw [u_no (by omega), u_no (by omega)]), rfl, H.2.2.2.1, u_at, ?_⟩, d1, rfl, ?_, by omega, rfl, d6, rfl, ?_⟩
          · rw [u_no (by omega), u_no (by omega)]; exact H.2.2.2.2.2
          · rw [u_no (by omega), u_no (by omega)]; exact d3
          · rw [u_no (by omega), u_at, d8]
            rcases (show vg = 0 ∨ vg = 1 by omega) with rfl | rfl <;> decide
    · rw [hcs, if_pos (show ¬ nI 103 = (100 : Int32) by decide), if_pos (show ¬ nI 103 = (98 : Int32) by decide), if_neg (show ¬ ¬ nI 103 = (103 : Int32) from fun q => q rfl), if_pos (show ¬ nI 103 = (100 : Int32) by decide), if_pos (show ¬ nI 103 = (98 : Int32) by decide)]
      by_cases hv : vg = 1
      · left
        subst hv
        have h31 : ¬ rd 3 &&& 2 = 0 := by
          rw [d8]
          rcases (show vb = 0 ∨ vb = 1 by omega) with rfl | rfl <;> decide
        unfold fX5_once
        rw [if_pos (show ¬ nI 1 = (0 : Int32) by decide), hrf, b1_some, if_pos h31, b6_some, y_bz0]
        exact ⟨s, _, _, _, _, _, _, _, _, _, _, _, _, _, _, _, by omega, rfl, rfl⟩
      · have hv0 : vg = 0 := by omega
        subst hv0
        have h31 : rd 3 &&& 2 = 0 := by
          rw [d8]
          rcases (show vb = 0 ∨ vb = 1 by omega) with rfl | rfl <;> decide
        rw [if_neg (show ¬ ¬ nI 0 = (0 : Int32) from fun q => q rfl)]
        rcases y_once t he (lo := 1) (hi := 9) (j := 1) (by decide) (by decide) rfl rfl (by decide) num (nI s) 1 (nI 103) 2 rd h31 with ⟨rr, fa, k', st, nx, nm, f, a1, a2, a3, a4, b1, b2, b3, b4, q0, q1, q2, q3⟩ | ⟨v, k', st, nx, nm, kind', s', e', num', at', token', told', b1, b2, b3, b4, v1, v2, q1, q2, q3, q4, q5, q6, q7, q8, q9⟩
        · left
          rw [show fX2_readNumber (-9) (nI n) (nI (s + 1)) num xt 1 9 = _ from q1, b6_some, q2, b5_some, show fX5_once mt (nI n) (nI (s + 1)) (nI s) 1 (nI 103) rd 2 1 1 9 = _ from q3, b6_some, y_bz0]
          exact ⟨f, _, _, _, _, _, _, _, _, _, _, _, _, _, _, _, q0, rfl, rfl⟩
        · right
          rw [show fX2_readNumber (-9) (nI n) (nI (s + 1)) num xt 1 9 = _ from q1, b6_some, q2, b5_some, show fX5_once mt (nI n) (nI (s + 1)) (nI s) 1 (nI 103) rd 2 1 1 9 = _ from q3, b6_some, y_bz1]
          refine ⟨kind', s', e', num', _, _, _, _, _, _, _, _, _, _, _, _, at', token', told', rfl, rfl, q4, by omega, q6, q7, q8, q9, nb, v, k, pp, dd, vb, 1, ⟨⟨H.1.1, H.1.2.1, v1, v2⟩, h2_c H.2.1 (fun x hx => by rw [u_no (by omega), u_no (by omega)]), H.2.2.1, rfl, ?_, u_at⟩, d1, rfl, ?_, d4, rfl, by omega, rfl, ?_⟩
          · rw [u_no (by omega), u_no (by omega)]; exact H.2.2.2.2.1
          · rw [u_no (by omega), u_no (by omega)]; exact d3
          · rw [u_no (by omega), u_at, d8]
            rcases (show vb = 0 ∨ vb = 1 by omega) with rfl | rfl <;> decide
  · left
    rw [if_pos h2, if_pos h3, if_pos h4, hrf, b1_some, if_neg h1]
    exact ⟨s, _, _, _, _, _, _, _, _, _, _, _, _, _, _, _, by omega, rfl, rfl⟩
end ITS

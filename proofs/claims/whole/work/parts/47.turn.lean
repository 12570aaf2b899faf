/-! the parts of NOW, one by one, and what changes them -/
def tA (nb : Nat) (at_ now : Nat → Int32) : Prop := ∀ q, q < 2 → ∀ i, i < 32 → bt (at_ q) i = decide (1 ≤ i ∧ i ≤ nb ∧ now (8 + i) = nI q)
def tB (nb : Nat) (now : Nat → Int32) : Prop := ∀ i, 1 ≤ i → i ≤ nb → now (8 + i) = -9 ∨ now (8 + i) = nI 0 ∨ now (8 + i) = nI 1
def tC (at_ now : Nat → Int32) : Prop := ∀ q, q < 2 → ∃ v, v ≤ 999 ∧ at_ (2 + q) = nI v ∧ now (3 + q) = nI v
def tD (at_ now : Nat → Int32) : Prop := ∀ q, q < 2 → ∃ v, v < 2 ∧ at_ (4 + q) = nI v ∧ now (5 + q) = nI v
def tE (at_ now : Nat → Int32) : Prop := ∃ w, w < 2 ∧ at_ 6 = nI w ∧ now 1 = nI w
def tF (at_ now : Nat → Int32) : Prop := (at_ 8 = -9 ∧ now 2 = -9) ∨ ∃ a b c, (1 ≤ a ∧ a ≤ 9) ∧ (1 ≤ b ∧ b ≤ 9) ∧ (1 ≤ c ∧ c ≤ 9) ∧ at_ 8 = nI (100 * a + 10 * b + c) ∧ now 2 = nI (100 * a + 10 * b + c)
def t6 (nb : Nat) (at_ now : Nat → Int32) : Prop := tA nb at_ now ∧ tB nb now ∧ tC at_ now ∧ tD at_ now ∧ tE at_ now ∧ tF at_ now
section T6
variable {nb g : Nat} {at_ now at' now' h : Nat → Int32}
theorem t6_of (R : tr_1 nb g at_ now) : t6 nb at_ now := ⟨R.1, R.2.1, R.2.2.1, R.2.2.2.1, R.2.2.2.2.1, R.2.2.2.2.2.1⟩
theorem tA_c (hnb : nb ≤ 18) (T : tA nb at_ now) (ha : ∀ i, i < 2 → at' i = at_ i) (hn : ∀ i, 8 < i → i < 27 → now' i = now i) : tA nb at' now' := fun q hq i hi => by
  rw [ha q hq, T q hq i hi]
  by_cases hb : 1 ≤ i ∧ i ≤ nb
  · rw [hn (8 + i) (by omega) (by omega)]
  · rw [decide_eq_false (fun z => hb ⟨z.1, z.2.1⟩), decide_eq_false (fun z => hb ⟨z.1, z.2.1⟩)]
theorem tB_c (hnb : nb ≤ 18) (T : tB nb now) (hn : ∀ i, 8 < i → i < 27 → now' i = now i) : tB nb now' := fun i h1 h2 => by
  rw [hn (8 + i) (by omega) (by omega)]; exact T i h1 h2
theorem tC_c (T : tC at_ now) (ha : ∀ i, 2 ≤ i → i < 4 → at' i = at_ i) (hn : ∀ i, 3 ≤ i → i < 5 → now' i = now i) : tC at' now' := fun q hq => by
  rw [ha (2 + q) (by omega) (by omega), hn (3 + q) (by omega) (by omega)]; exact T q hq
theorem tD_c (T : tD at_ now) (ha : ∀ i, 4 ≤ i → i < 6 → at' i = at_ i) (hn : ∀ i, 5 ≤ i → i < 7 → now' i = now i) : tD at' now' := fun q hq => by
  rw [ha (4 + q) (by omega) (by omega), hn (5 + q) (by omega) (by omega)]; exact T q hq
theorem tE_c (T : tE at_ now) (ha : at' 6 = at_ 6) (hn : now' 1 = now 1) : tE at' now' := by
  unfold tE; rw [ha, hn]; exact T
theorem tF_c (T : tF at_ now) (ha : at' 8 = at_ 8) (hn : now' 2 = now 2) : tF at' now' := by
  unfold tF; rw [ha, hn]; exact T
theorem u_no {f : Nat → Int32} {i j : Nat} {x : Int32} (h : ¬ j = i) : upd f i x j = f j := if_neg h
theorem u_at {f : Nat → Int32} {i : Nat} {x : Int32} : upd f i x i = x := if_pos rfl
theorem t6_who (hnb : nb ≤ 18) (T : t6 nb at_ now) (x : Int32) : t6 nb (upd at_ 7 x) now :=
  ⟨tA_c hnb T.1 (fun i hi => u_no (by omega)) (fun _ _ _ => rfl), T.2.1, tC_c T.2.2.1 (fun i h1 h2 => u_no (by omega)) (fun _ _ _ => rfl), tD_c T.2.2.2.1 (fun i h1 h2 => u_no (by omega)) (fun _ _ _ => rfl), tE_c T.2.2.2.2.1 (u_no (by omega)) rfl, tF_c T.2.2.2.2.2 (u_no (by omega)) rfl⟩
theorem t6_who2 (hnb : nb ≤ 18) (T : t6 nb at_ now) {j : Nat} (hj : j = 0 ∨ j = 7) (x : Int32) : t6 nb at_ (upd now j x) :=
  ⟨tA_c hnb T.1 (fun i hi => rfl) (fun i h1 h2 => u_no (by omega)), tB_c hnb T.2.1 (fun i h1 h2 => u_no (by omega)), tC_c T.2.2.1 (fun i h1 h2 => rfl) (fun i h1 h2 => u_no (by omega)), tD_c T.2.2.2.1 (fun i h1 h2 => rfl) (fun i h1 h2 => u_no (by omega)), tE_c T.2.2.2.2.1 rfl (u_no (by omega)), tF_c T.2.2.2.2.2 rfl (u_no (by omega))⟩
theorem t6_tide (hnb : nb ≤ 18) (T : t6 nb at_ now) {q v : Nat} (hq : q < 2) (hv : v ≤ 999) : t6 nb (upd at_ (2 + q) (nI v)) (upd now (3 + q) (nI v)) := by
  refine ⟨tA_c hnb T.1 (fun i hi => u_no (by omega)) (fun i h1 h2 => u_no (by omega)), tB_c hnb T.2.1 (fun i h1 h2 => u_no (by omega)), fun r hr => ?_, tD_c T.2.2.2.1 (fun i h1 h2 => u_no (by omega)) (fun i h1 h2 => u_no (by omega)), tE_c T.2.2.2.2.1 (u_no (by omega)) (u_no (by omega)), tF_c T.2.2.2.2.2 (u_no (by omega)) (u_no (by omega))⟩
  by_cases e : r = q
  · subst e; exact ⟨v, hv, u_at, u_at⟩
  · rw [u_no (show ¬ 2 + r = 2 + q by omega), u_no (show ¬ 3 + r = 3 + q by omega)]; exact T.2.2.1 r hr
theorem t6_blind (hnb : nb ≤ 18) (T : t6 nb at_ now) {q v : Nat} (hq : q < 2) (hv : v < 2) : t6 nb (upd at_ (4 + q) (nI v)) (upd now (5 + q) (nI v)) := by
  refine ⟨tA_c hnb T.1 (fun i hi => u_no (by omega)) (fun i h1 h2 => u_no (by omega)), tB_c hnb T.2.1 (fun i h1 h2 => u_no (by omega)), tC_c T.2.2.1 (fun i h1 h2 => u_no (by omega)) (fun i h1 h2 => u_no (by omega)), fun r hr => ?_, tE_c T.2.2.2.2.1 (u_no (by omega)) (u_no (by omega)), tF_c T.2.2.2.2.2 (u_no (by omega)) (u_no (by omega))⟩
  by_cases e : r = q
  · subst e; exact ⟨v, hv, u_at, u_at⟩
  · rw [u_no (show ¬ 4 + r = 4 + q by omega), u_no (show ¬ 5 + r = 5 + q by omega)]; exact T.2.2.2.1 r hr
theorem t6_wind (hnb : nb ≤ 18) (T : t6 nb at_ now) {v : Nat} (hv : v < 2) : t6 nb (upd at_ 6 (nI v)) (upd now 1 (nI v)) :=
  ⟨tA_c hnb T.1 (fun i hi => u_no (by omega)) (fun i h1 h2 => u_no (by omega)), tB_c hnb T.2.1 (fun i h1 h2 => u_no (by omega)), tC_c T.2.2.1 (fun i h1 h2 => u_no (by omega)) (fun i h1 h2 => u_no (by omega)), tD_c T.2.2.2.1 (fun i h1 h2 => u_no (by omega)) (fun i h1 h2 => u_no (by omega)), ⟨v, hv, u_at, u_at⟩, tF_c T.2.2.2.2.2 (u_no (by omega)) (u_no (by omega))⟩
theorem t6_show (hnb : nb ≤ 18) (T : t6 nb at_ now) {x : Int32} (hx : x = -9 ∨ ∃ a b c, (1 ≤ a ∧ a ≤ 9) ∧ (1 ≤ b ∧ b ≤ 9) ∧ (1 ≤ c ∧ c ≤ 9) ∧ x = nI (100 * a + 10 * b + c)) : t6 nb (upd at_ 8 x) (upd now 2 x) := by
  refine ⟨tA_c hnb T.1 (fun i hi => u_no (by omega)) (fun i h1 h2 => u_no (by omega)), tB_c hnb T.2.1 (fun i h1 h2 => u_no (by omega)), tC_c T.2.2.1 (fun i h1 h2 => u_no (by omega)) (fun i h1 h2 => u_no (by omega)), tD_c T.2.2.2.1 (fun i h1 h2 => u_no (by omega)) (fun i h1 h2 => u_no (by omega)), tE_c T.2.2.2.2.1 (u_no (by omega)) (u_no (by omega)), ?_⟩
  rcases hx with hx | ⟨a, b, c, ha, hb, hc, e⟩
  · exact Or.inl ⟨u_at.trans hx, u_at.trans hx⟩
  · exact Or.inr ⟨a, b, c, ha, hb, hc, u_at.trans e, u_at.trans e⟩
theorem t6_take (hnb : nb ≤ 18) (T : t6 nb at_ now) {p b : Nat} (hp : p < 2) (h1 : 1 ≤ b) (h2 : b ≤ nb) (hf : now (8 + b) = -9) : t6 nb (upd at_ p (at_ p ||| (1 <<< (nI b &&& 31)))) (upd now (8 + b) (nI p)) := by
  refine ⟨fun q hq i hi => ?_, fun i i1 i2 => ?_, tC_c T.2.2.1 (fun i h1 h2 => u_no (by omega)) (fun i h1 h2 => u_no (by omega)), tD_c T.2.2.2.1 (fun i h1 h2 => u_no (by omega)) (fun i h1 h2 => u_no (by omega)), tE_c T.2.2.2.2.1 (u_no (by omega)) (u_no (by omega)), tF_c T.2.2.2.2.2 (u_no (by omega)) (u_no (by omega))⟩
  · by_cases eq : q = p
    · subst eq
      rw [u_at, b_or, bt_bit (by omega) hi, T.1 q hq i hi]
      by_cases ei : i = b
      · subst ei
        rw [u_at, decide_eq_true (show i = i from rfl), Bool.or_true, decide_eq_true ⟨h1, h2, rfl⟩]
      · rw [u_no (show ¬ 8 + i = 8 + b by omega), decide_eq_false ei, Bool.or_false]
    · rw [u_no eq, T.1 q hq i hi]
      by_cases ei : i = b
      · subst ei
        rw [u_at, hf, decide_eq_false (fun z => nI_m9 (n := q) (by omega) z.2.2.symm), decide_eq_false (fun z => eq ((nI_eq (by omega) (by omega)).mp z.2.2).symm)]
      · rw [u_no (show ¬ 8 + i = 8 + b by omega)]
  · by_cases ei : i = b
    · subst ei
      rw [u_at]
      rcases (show p = 0 ∨ p = 1 by omega) with rfl | rfl
      · exact Or.inr (Or.inl rfl)
      · exact Or.inr (Or.inr rfl)
    · rw [u_no (show ¬ 8 + i = 8 + b by omega)]; exact T.2.1 i i1 i2
theorem t6_berths (T : t6 nb at_ now) (h0 : h 0 = nI nb) (hnb : nb ≤ 18) {q : Nat} (hq : q < 2) : fX5_berths h now (nI q) = some (at_ q) := by
  obtain ⟨x, e, gx⟩ := r1_berthsL (now := now) h0 hnb (q := q) 400 1 0 (by omega) (by omega) (by omega)
  have : x = at_ q := b_ext (fun i hi => by rw [gx i hi, b_0, Bool.false_or, T.1 q hq i hi])
  subst this
  unfold fX5_berths
  exact (congrArg (fun o => tg_b2 o _) e).trans rfl
theorem t6_winner (hg : g ≤ 9) {p : Nat} (hp : p < 2) (ho : PC (at_ (1 - p)) < g) : fX1_winner at_ (nI g) = some (if PC (at_ p) < g then -9 else nI p) := by
  unfold fX1_winner
  have l0 := PC_le (at_ 0)
  have l1 := PC_le (at_ 1)
  rw [show (400 : Nat) = 397 + 1 + 1 + 1 from rfl, fX1_winner_L2, if_neg (by decide), show fX1_berthsOf at_ 0 = _ from r1_berthsOf (q := 0) (by decide), b1_some, bc_PC, b1_some]
  rcases (show p = 0 ∨ p = 1 by omega) with rfl | rfl
  · have ho : PC (at_ 1) < g := ho
    by_cases c : PC (at_ 0) < g
    · rw [if_pos (nI_lt c (by omega)), if_pos c, nm_is, fX1_winner_L2, if_neg (by decide), show fX1_berthsOf at_ (0 + 1) = _ from r1_berthsOf (q := 1) (by decide), b1_some, bc_PC, b1_some, if_pos (nI_lt ho (by omega)), nm_is, fX1_winner_L2, if_pos (by decide)]
    · rw [if_neg (nI_nlt (by omega) (by omega)), if_neg c]; rfl
  · have ho : PC (at_ 0) < g := ho
    rw [if_pos (nI_lt ho (by omega)), nm_is, fX1_winner_L2, if_neg (by decide), show fX1_berthsOf at_ (0 + 1) = _ from r1_berthsOf (q := 1) (by decide), b1_some, bc_PC, b1_some]
    by_cases c : PC (at_ 1) < g
    · rw [if_pos (nI_lt c (by omega)), if_pos c, nm_is, fX1_winner_L2, if_pos (by decide)]
    · rw [if_neg (nI_nlt (by omega) (by omega)), if_neg c]; rfl
theorem t6_blinds (T : t6 nb at_ now) {q : Nat} (hq : q < 2) : fX1_isBlind at_ (nI q) = some (at_ (4 + q)) := by
  obtain ⟨v, hv, e, -⟩ := T.2.2.2.1 q hq
  unfold fX1_isBlind
  rw [show (4 : Int32) = nI 4 from rfl, nI_add, ck_nI (by omega) (by decide), cl_nI (by omega), e]
  rcases (show v = 0 ∨ v = 1 by omega) with rfl | rfl
  · rfl
  · rfl
theorem t6_lies (T : t6 nb at_ now) : fX1_lies at_ = some (if now 2 = -9 then 0 else 1) := by
  unfold fX1_lies
  rcases T.2.2.2.2.2 with ⟨e1, e2⟩ | ⟨a, b, c, ha, hb, hc, e1, e2⟩
  · rw [e1, e2]; rfl
  · rw [e1, e2]
    split <;> rfl
/-- the end of a turn, alike -/
theorem q_ends (hnb : nb ≤ 18) (hg : g ≤ 9) (h0 : h 0 = nI nb) (h1 : h 1 = nI g) (T : t6 nb at_ now) {p : Nat} (hp : p < 2) (e7 : at_ 7 = nI p) (e0 : now 0 = nI p) (w7 : now 7 = -9) (ho : PC (at_ (1 - p)) < g) (hc : ¬ PC (at_ p) < g → at_ 8 = -9) : ∃ at' now', fX1_endTurn at_ (nI g) = some at' ∧ fX5_ends h now = some now' ∧ tr_1 nb g at' now' := by
  have e : (1 : Int32) - nI p = nI (1 - p) := pk_sub (a := 1) (by omega)
  have l := PC_le (at_ p)
  obtain ⟨v, hv, v1, v2⟩ := T.2.2.2.1 (1 - p) (by omega)
  have both : PC (at_ p) < g → PC (at_ 0) < g ∧ PC (at_ 1) < g := fun hlt => by
    rcases (show p = 0 ∨ p = 1 by omega) with rfl | rfl
    · exact ⟨hlt, ho⟩
    · exact ⟨ho, hlt⟩
  unfold fX1_endTurn fX5_ends
  simp only [nm_is]
  rw [t6_winner hg hp ho, b1_some, e7, e0, e, t6_blinds T (by omega), b1_some, t6_berths T h0 hnb hp, b1_some, many_PC, b1_some, h1, t6_lies T, b1_some, show (5 : Int32) = nI 5 from rfl, nI_add, ck_nI (show 5 + (1 - p) < 27 by omega) (by decide), cl_nI (show 5 + (1 - p) < 2 ^ 31 by omega), show (4 : Int32) = nI 4 from rfl, nI_add, ck_nI (show 4 + (1 - p) < 9 by omega) (by decide), cl_nI (show 4 + (1 - p) < 2 ^ 31 by omega)]
  by_cases c : PC (at_ p) < g
  · rw [if_pos c, if_pos rfl, if_pos (nI_lt c (by omega)), v1, v2]
    have step : ∀ {x y}, x = upd at_ 7 (nI (1 - p)) → y = upd now 0 (nI (1 - p)) → tr_1 nb g x y := by
      intro x y hx hy
      subst hx hy
      have T' := t6_who2 hnb (t6_who hnb T (nI (1 - p))) (Or.inl rfl) (nI (1 - p))
      exact ⟨T'.1, T'.2.1, T'.2.2.1, T'.2.2.2.1, T'.2.2.2.2.1, T'.2.2.2.2.2, 1 - p, by omega, u_at, Or.inl ⟨(both c).1, (both c).2, w7, u_at⟩⟩
    rcases (show v = 0 ∨ v = 1 by omega) with rfl | rfl
    · exact ⟨_, _, rfl, rfl, step rfl rfl⟩
    · by_cases z : now 2 = -9
      · have T' := t6_blind hnb T (q := 1 - p) (v := 0) (by omega) (by omega)
        refine ⟨upd at_ (4 + (1 - p)) 0, upd now (5 + (1 - p)) 0, ?_, ?_, T'.1, T'.2.1, T'.2.2.1, T'.2.2.2.1, T'.2.2.2.2.1, T'.2.2.2.2.2, p, hp, (u_no (by omega)).trans e7, Or.inl ⟨?_, ?_, (u_no (by omega)).trans w7, (u_no (by omega)).trans e0⟩⟩
        · rw [if_neg (by decide), if_pos z, if_neg (by decide)]
        · rw [if_neg (by decide), if_neg (fun q => q z), ck_nI (show 5 + (1 - p) < 27 by omega) (by decide)]
        · rw [u_no (by omega)]; exact (both c).1
        · rw [u_no (by omega)]; exact (both c).2
      · refine ⟨_, _, ?_, ?_, step rfl rfl⟩
        · rw [if_neg (by decide), if_neg z, if_pos (by decide)]
        · rw [if_neg (by decide), if_pos z]
  · have T' := t6_who2 hnb (t6_who2 hnb T (Or.inr rfl) (nI p)) (Or.inl rfl) (-9)
    refine ⟨at_, upd (upd now 7 (nI p)) 0 (-9), ?_, ?_, T'.1, T'.2.1, T'.2.2.1, T'.2.2.2.1, T'.2.2.2.2.1, T'.2.2.2.2.2, p, hp, e7, Or.inr ⟨p, hp, by omega, ho, ?_, u_at, hc c⟩⟩
    · rw [if_neg c, if_neg (nI_m9 (by omega))]
    · rw [if_neg (nI_nlt (by omega) (by omega))]
    · rw [u_no (by omega), u_at]
theorem q_tideC {q v n : Nat} (hq : q < 2) (hv : v ≤ 999) (hn : n ≤ 32) (e : at_ (2 + q) = nI v) : fX1_giveTides at_ (nI q) (nI n) = some (upd at_ (2 + q) (nI (min 999 (v + n)))) := by
  unfold fX1_giveTides
  rw [r1_tidesOf hq, b1_some, e, nI_add, nm_is, show (2 : Int32) = nI 2 from rfl, nI_add, ck_nI (show 2 + q < 9 by omega) (by decide), cl_nI (show 2 + q < 2 ^ 31 by omega), nm_is]
  by_cases c : 999 < v + n
  · rw [if_pos (show (999 : Int32) < nI (v + n) from nI_lt (a := 999) c (by omega)), show min 999 (v + n) = 999 by omega]; rfl
  · rw [if_neg (show ¬ (999 : Int32) < nI (v + n) from nI_nlt (a := 999) (by omega) (by omega)), show min 999 (v + n) = v + n by omega]
theorem q_tideM {q v n : Nat} (hq : q < 2) (hv : v ≤ 999) (hn : n ≤ 32) (e : now (3 + q) = nI v) : fX5_tides now (nI q) (nI n) = some (upd now (3 + q) (nI (min 999 (v + n)))) := by
  unfold fX5_tides
  rw [show (3 : Int32) = nI 3 from rfl, nI_add, ck_nI (show 3 + q < 27 by omega) (by decide), cl_nI (show 3 + q < 2 ^ 31 by omega), e, nI_add, nm_is]
  simp only [ck_nI (show 3 + q < 27 by omega) (show 27 < 2 ^ 31 by decide), nm_is]
  by_cases c : 999 < v + n
  · rw [if_neg (show ¬ nI (v + n) ≤ (999 : Int32) from nI_ge (a := 999) c (by omega)), b1_some, show min 999 (v + n) = 999 by omega]; rfl
  · rw [if_pos (show nI (v + n) ≤ (999 : Int32) from nI_le (b := 999) (by omega) (by omega)), b1_some, show min 999 (v + n) = v + n by omega]
theorem q_free (R : tr_1 nb g at_ now) (w : now 7 = -9) : ∃ p, p < 2 ∧ at_ 7 = nI p ∧ now 0 = nI p ∧ PC (at_ p) < g ∧ PC (at_ (1 - p)) < g := by
  obtain ⟨p, hp, e, c⟩ := R.2.2.2.2.2.2
  rcases c with ⟨c1, c2, c3, c4⟩ | ⟨q, hq, -, -, e', -⟩
  · rcases (show p = 0 ∨ p = 1 by omega) with rfl | rfl
    · exact ⟨0, by omega, e, c4, c1, c2⟩
    · exact ⟨1, by omega, e, c4, c2, c1⟩
  · exact absurd (e'.symm.trans w) (nI_m9 (by omega))
end T6
theorem s_passes : sm_passes tr_R := by
  intro x_text x_typed t_pips t_many t_berths t_goal r_fault r_length r_kind r_start r_next r_number r_dice r_bt r_gt d_pips d_many d_berths d_goal a_shown a_calm a_windy a_turns a_many a_ever c_at c_past c_known i_at i_past i_known j_at j_past j_known x_kept x_cb x_ct x_chalked x_traced m_text m_size m_at m_begin m_token m_told m_read m_harbour m_now m_undone m_undos m_one m_two m_three m_chalks m_cb m_co m_trace m_kept hR
  have hR' := hR
  obtain ⟨nb, g, k, pp, H, A, U, I0, I1, Ck, X, tr⟩ := hR'
  have hnb := H.1.2.1
  have hg9 := H.1.2.2.2
  have hh0 := H.2.2.2.2.1
  have hh1 := H.2.2.2.2.2
  obtain rfl := H.2.2.1
  obtain rfl := H.2.2.2.1
  obtain rfl := A.1
  obtain ⟨x, x1, x2, -, -⟩ := r1_open U.1 hh0 hnb
  have hR1 := U.1
  unfold fX4_passes fX5_passes
  rw [r1_lies hR1, b1_some, x1, b1_some, x2, b1_some, r1_winner hR1 hg9, b1_some, r1_isWon hR1, b1_some]
  by_cases z : m_now 2 = -9
  · exact ⟨-2, c_at, c_past, c_known, m_now, m_undone, m_undos, by rw [if_pos z, if_pos rfl], by rw [if_pos z], hR⟩
  · rw [if_neg z, if_neg z, if_neg (by decide)]
    by_cases hx : x = 0
    · rw [if_neg (show ¬ ¬ x = 0 from fun q => q hx), if_neg (show ¬ ¬ x = 0 from fun q => q hx)]
      by_cases w : m_now 7 = -9
      · obtain ⟨past', known', undone', undos', n1, n2, hU⟩ := q_note hnb U
        obtain ⟨p, hp, e7, e0, c1, c2⟩ := q_free hR1 w
        obtain ⟨at', now', y1, y2, R'⟩ := q_ends (h := m_harbour) hnb hg9 hh0 hh1 (t6_show hnb (t6_of hR1) (Or.inl rfl)) hp ((u_no (by omega)).trans e7) ((u_no (by omega)).trans e0) ((u_no (by omega)).trans w) (by rw [u_no (by omega)]; exact c2) (fun _ => u_at)
        refine ⟨now' 0, at', past', known', now', undone', undos', ?_, ?_, nb, g, k, pp, H, A, hU _ _ R', I0, I1, Ck, X, tr⟩
        · rw [if_pos w]
          unfold fX1_pass
          rw [n1, b2_some, nm_is, y1, b1_some, b3_some, r1_who R' hg9, b1_some]
        · rw [if_pos w, if_pos rfl, n2, b2_some, nm_is, y2, b1_some]
      · exact ⟨-2, c_at, c_past, c_known, m_now, m_undone, m_undos, by rw [if_neg w], by rw [if_neg w, if_neg (by decide)], hR⟩
    · exact ⟨-2, c_at, c_past, c_known, m_now, m_undone, m_undos, by rw [if_pos hx], by rw [if_pos hx], hR⟩
theorem s_leaves : sm_leaves tr_R := by
  intro x_text x_typed t_pips t_many t_berths t_goal r_fault r_length r_kind r_start r_next r_number r_dice r_bt r_gt d_pips d_many d_berths d_goal a_shown a_calm a_windy a_turns a_many a_ever c_at c_past c_known i_at i_past i_known j_at j_past j_known x_kept x_cb x_ct x_chalked x_traced m_text m_size m_at m_begin m_token m_told m_read m_harbour m_now m_undone m_undos m_one m_two m_three m_chalks m_cb m_co m_trace m_kept hR
  have hR' := hR
  obtain ⟨nb, g, k, pp, H, A, U, I0, I1, Ck, X, tr⟩ := hR'
  have hnb := H.1.2.1
  have hg9 := H.1.2.2.2
  have hh0 := H.2.2.2.2.1
  have hh1 := H.2.2.2.2.2
  obtain rfl := H.2.2.1
  obtain rfl := H.2.2.2.1
  obtain rfl := A.1
  have hR1 := U.1
  unfold fX4_leaves fX5_leaves
  rw [r1_lies hR1, b1_some, r1_winner hR1 hg9, b1_some, r1_isWon hR1, b1_some]
  by_cases z : m_now 2 = -9
  · exact ⟨-2, c_at, c_past, c_known, m_now, m_undone, m_undos, by rw [if_pos z, if_pos rfl], by rw [if_pos z], hR⟩
  · rw [if_neg z, if_neg z, if_neg (by decide)]
    by_cases w : m_now 7 = -9
    · obtain ⟨past', known', undone', undos', n1, n2, hU⟩ := q_note hnb U
      obtain ⟨p, hp, e7, e0, c1, c2⟩ := q_free hR1 w
      have e : (1 : Int32) - nI p = nI (1 - p) := pk_sub (a := 1) (by omega)
      obtain ⟨v, hv, v1, v2⟩ := hR1.2.2.1 (1 - p) (by omega)
      have t1 := q_tideC (n := 1) (show 1 - p < 2 by omega) hv (by omega) v1
      have t2 := q_tideM (n := 1) (show 1 - p < 2 by omega) hv (by omega) v2
      obtain ⟨at', now', y1, y2, R'⟩ := q_ends (h := m_harbour) hnb hg9 hh0 hh1 (t6_tide hnb (t6_of hR1) (q := 1 - p) (v := min 999 (v + 1)) (by omega) (by omega)) hp ((u_no (by omega)).trans e7) ((u_no (by omega)).trans e0) ((u_no (by omega)).trans w) (by rw [u_no (by omega)]; exact c2) (fun q => absurd (by rw [u_no (by omega)]; exact c1) q)
      refine ⟨now' 0, at', past', known', now', undone', undos', ?_, ?_, nb, g, k, pp, H, A, hU _ _ R', I0, I1, Ck, X, tr⟩
      · rw [if_pos w]
        unfold fX1_leave
        rw [n1, b2_some, e7, e, show fX1_giveTides c_at (nI (1 - p)) 1 = _ from t1, b1_some, y1, b1_some, b3_some, r1_who R' hg9, b1_some]
      · rw [if_pos w, if_pos rfl, n2, b2_some, e0, e, show fX5_tides m_now (nI (1 - p)) 1 = _ from t2, b1_some, y2, b1_some]
    · exact ⟨-2, c_at, c_past, c_known, m_now, m_undone, m_undos, by rw [if_neg w], by rw [if_neg w, if_neg (by decide)], hR⟩
theorem s_takes : sm_takes tr_R := by
  intro x_text x_typed t_pips t_many t_berths t_goal r_fault r_length r_kind r_start r_next r_number r_dice r_bt r_gt d_pips d_many d_berths d_goal a_shown a_calm a_windy a_turns a_many a_ever c_at c_past c_known i_at i_past i_known j_at j_past j_known x_kept x_cb x_ct x_chalked x_traced m_text m_size m_at m_begin m_token m_told m_read m_harbour m_now m_undone m_undos m_one m_two m_three m_chalks m_cb m_co m_trace m_kept p1 hR
  have hR' := hR
  obtain ⟨nb, g, k, pp, H, A, U, I0, I1, Ck, X, tr⟩ := hR'
  have hnb := H.1.2.1
  have hg9 := H.1.2.2.2
  have hh0 := H.2.2.2.2.1
  have hh1 := H.2.2.2.2.2
  obtain rfl := H.2.2.1
  obtain rfl := H.2.2.2.1
  obtain rfl := A.1
  obtain ⟨x, x1, x2, x3, -⟩ := r1_open U.1 hh0 hnb
  have hR1 := U.1
  unfold fX4_takes fX5_takes
  rw [q_isBerthC hnb, b1_some, q_ifne, q_isBerthM hnb hh0, b1_some, q_ifne, x1, b1_some, x2, b1_some, r1_winner hR1 hg9, b1_some, r1_isWon hR1, b1_some]
  by_cases hb : 1 ≤ p1.toInt ∧ p1.toInt ≤ (nb : Int)
  · obtain ⟨b, b1, b2, rfl⟩ := q_berth hb
    rw [if_pos hb, if_pos hb, tr_hasBit x (show b < 32 by omega), b1_some, q_ifne, bt_sh1 x (show b < 32 by omega), q_ifeq]
    by_cases w : m_now 7 = -9
    · rw [if_neg (fun q => q w), if_pos w, if_pos rfl]
      by_cases hx : bt x b = true
      · obtain ⟨past', known', undone', undos', n1, n2, hU⟩ := q_note hnb U
        obtain ⟨p, hp, e7, e0, c1, c2⟩ := q_free hR1 w
        have e : (1 : Int32) - nI p = nI (1 - p) := pk_sub (a := 1) (by omega)
        obtain ⟨v, hv, v1, v2⟩ := hR1.2.2.1 (1 - p) (by omega)
        obtain ⟨g1, g2⟩ := q_gives (b := b) hR1 hh0 hnb hp e7 e0
        generalize hn : PC (c_at (1 - p) &&& ((1 <<< (nI b &&& 31)) - 1)) = n at g1 g2
        have hn' : n ≤ 32 := by rw [← hn]; exact PC_le _
        have T1 := t6_take hnb (t6_of hR1) hp b1 b2 (x3 b (by omega) hx).2.2
        have T2 := t6_tide hnb T1 (q := 1 - p) (v := min 999 (v + n)) (by omega) (by omega)
        have T3 := t6_show hnb T2 (Or.inl rfl)
        have t1 := q_tideC (at_ := upd c_at p (c_at p ||| (1 <<< (nI b &&& 31)))) (n := n) (show 1 - p < 2 by omega) hv hn' ((u_no (by omega)).trans v1)
        have t2 := q_tideM (n := n) (show 1 - p < 2 by omega) hv hn' v2
        obtain ⟨at', now', y1, y2, R'⟩ := q_ends (h := m_harbour) hnb hg9 hh0 hh1 T3 hp ((u_no (by omega)).trans ((u_no (by omega)).trans ((u_no (by omega)).trans e7))) ((u_no (by omega)).trans ((u_no (by omega)).trans ((u_no (by omega)).trans e0))) ((u_no (by omega)).trans ((u_no (by omega)).trans ((u_no (by omega)).trans w))) (by rw [u_no (by omega), u_no (by omega), u_no (by omega)]; exact c2) (fun _ => u_at)
        refine ⟨nI n, at', past', known', now', undone', undos', ?_, ?_, nb, g, k, pp, H, A, hU _ _ R', I0, I1, Ck, X, tr⟩
        · rw [if_pos hx]
          unfold fX1_take fX4_bit
          rw [n1, b2_some, g1, b1_some, b1_some, e7, show (0 : Int32) = nI 0 from rfl, nI_add, Nat.zero_add]
          simp only [nm_is, ck_nI (show p < 9 by omega) (show 9 < 2 ^ 31 by decide), cl_nI (show p < 2 ^ 31 by omega)]
          rw [show upd c_at p (c_at p ||| (1 <<< (nI b &&& 31))) 7 = nI p from (u_no (by omega)).trans e7, e, t1, b1_some, y1, b1_some, b4_some]
        · rw [if_pos hx, n2, b2_some, g2, b1_some, e0, e, t2, b1_some]
          simp only [nm_is]
          rw [show upd m_now (3 + (1 - p)) (nI (min 999 (v + n))) 0 = nI p from (u_no (by omega)).trans e0, show (8 : Int32) = nI 8 from rfl, nI_add, ck_nI (show 8 + b < 27 by omega) (by decide), cl_nI (show 8 + b < 2 ^ 31 by omega), fa_upd_swap _ (show 3 + (1 - p) ≠ 8 + b by omega), y2, b1_some]
      · exact ⟨-2, c_at, c_past, c_known, m_now, m_undone, m_undos, by rw [if_neg hx], by rw [if_neg hx], hR⟩
    · refine ⟨-2, c_at, c_past, c_known, m_now, m_undone, m_undos, by rw [if_pos w], ?_, hR⟩
      rw [if_neg w, if_neg (show ¬ (1 : Int32) = 0 by decide)]
      split <;> rfl
  · exact ⟨-1, c_at, c_past, c_known, m_now, m_undone, m_undos, by rw [if_neg hb], by rw [if_neg hb], hR⟩
theorem tr_al3 {a b c : Nat} : tr_al a b c = 3 ↔ a = b ∧ b = c := by
  unfold tr_al
  constructor
  · intro e
    by_cases h1 : a = b
    · by_cases h2 : b = c
      · exact ⟨h1, h2⟩
      · rw [if_neg h2] at e; split at e <;> split at e <;> omega
    · rw [if_neg h1] at e; split at e <;> split at e <;> omega
  · rintro ⟨rfl, rfl⟩; rw [if_pos rfl]
theorem s_throwsDice : sm_throwsDice tr_R := by
  intro x_text x_typed t_pips t_many t_berths t_goal r_fault r_length r_kind r_start r_next r_number r_dice r_bt r_gt d_pips d_many d_berths d_goal a_shown a_calm a_windy a_turns a_many a_ever c_at c_past c_known i_at i_past i_known j_at j_past j_known x_kept x_cb x_ct x_chalked x_traced m_text m_size m_at m_begin m_token m_told m_read m_harbour m_now m_undone m_undos m_one m_two m_three m_chalks m_cb m_co m_trace m_kept p1 p2 p3 hR
  have hR' := hR
  obtain ⟨nb, g, k, pp, H, A, U, I0, I1, Ck, X, tr⟩ := hR'
  have hnb := H.1.2.1
  have hg9 := H.1.2.2.2
  have hh0 := H.2.2.2.2.1
  have hh1 := H.2.2.2.2.2
  obtain rfl := H.2.2.1
  obtain rfl := H.2.2.2.1
  obtain rfl := A.1
  have hR1 := U.1
  unfold fX4_throwsDice fX5_throwsDice
  rw [show fX3_hasPip t_pips t_many 0 p1 = _ from q_hasPip H (d := 0) (by decide) p1, b1_some, q_ifeq, show fX3_hasPip t_pips t_many 1 p2 = _ from q_hasPip H (d := 1) (by decide) p2, b1_some, q_ifeq, show fX3_hasPip t_pips t_many 2 p3 = _ from q_hasPip H (d := 2) (by decide) p3, b1_some, q_ifne, show fX5_isFace m_harbour 0 p1 = _ from q_isFace H (d := 0) (by decide) p1, b1_some, q_ifeq, show fX5_isFace m_harbour 1 p2 = _ from q_isFace H (d := 1) (by decide) p2, b1_some, q_ifeq, show fX5_isFace m_harbour 2 p3 = _ from q_isFace H (d := 2) (by decide) p3, b1_some, q_ifne, r1_lies hR1, b1_some, r1_winner hR1 hg9, b1_some, r1_isWon hR1, b1_some]
  by_cases f1 : q_fd pp 0 p1 (k 0) = true
  · by_cases f2 : q_fd pp 1 p2 (k 1) = true
    · by_cases f3 : q_fd pp 2 p3 (k 2) = true
      · rw [if_pos f1, if_pos f2, if_pos f3, if_pos f1, if_pos f2, if_pos f3]
        by_cases z : m_now 2 = -9
        · rw [if_pos z, if_neg (show ¬ ¬ (0 : Int32) = 0 by decide), if_neg (show ¬ ¬ m_now 2 = -9 from fun q => q z)]
          by_cases w : m_now 7 = -9
          · rw [if_pos w, if_pos w, if_pos (show (0 : Int32) = 0 from rfl)]
            obtain ⟨a, ha, rfl⟩ := q_face H (by decide) f1
            obtain ⟨b, hb, rfl⟩ := q_face H (by decide) f2
            obtain ⟨c, hc, rfl⟩ := q_face H (by decide) f3
            obtain ⟨past', known', undone', undos', n1, n2, hU⟩ := q_note hnb U
            obtain ⟨p, hp, e7, e0, c1, c2⟩ := q_free hR1 w
            obtain ⟨wd, hw, w1, w2⟩ := hR1.2.2.2.2.1
            have T1 := t6_show hnb (t6_of hR1) (x := nI (100 * a + 10 * b + c)) (Or.inr ⟨a, b, c, ha, hb, hc, rfl⟩)
            have both : PC (c_at 0) < g ∧ PC (c_at 1) < g := by
              rcases (show p = 0 ∨ p = 1 by omega) with rfl | rfl
              · exact ⟨c1, c2⟩
              · exact ⟨c2, c1⟩
            have hs : (100 : Int32) * nI a + 10 * nI b + nI c = nI (100 * a + 10 * b + c) := by
              rw [show (100 : Int32) = nI 100 from rfl, show (10 : Int32) = nI 10 from rfl, pk_mul, pk_mul, nI_add, nI_add]
            have tri : ∀ G : Nat → Int32, G 0 = nI p → (if ¬ nI a = nI b then tg_ck (5 + G 0) 27 (some (G (Int32.toNatClampNeg (5 + G 0)))) else if ¬ nI b = nI c then tg_ck (5 + G 0) 27 (some (G (Int32.toNatClampNeg (5 + G 0)))) else some (1 : Int32)) = some (if tr_al a b c = 3 then 1 else G (5 + p)) := by
              intro G hG
              rw [hG, show (5 : Int32) = nI 5 from rfl, nI_add, ck_nI (show 5 + p < 27 by omega) (by decide), cl_nI (show 5 + p < 2 ^ 31 by omega)]
              by_cases q1 : a = b
              · by_cases q2 : b = c
                · rw [if_neg (fun q => q (by rw [q1])), if_neg (fun q => q (by rw [q2])), if_pos (tr_al3.mpr ⟨q1, q2⟩)]
                · rw [if_neg (fun q => q (by rw [q1])), if_pos (fun q => q2 ((nI_eq (by omega) (by omega)).mp q)), if_neg (fun q => q2 (tr_al3.mp q).2)]
              · rw [if_pos (fun q => q1 ((nI_eq (by omega) (by omega)).mp q)), if_neg (fun q => q1 (tr_al3.mp q).1)]
            have key : ∃ at' now', fX1_cast c_at c_past c_known (nI a) (nI b) (nI c) = some (at', past', known') ∧ now' = upd (upd (upd m_now 2 (nI (100 * a + 10 * b + c))) 1 (if tr_al a b c = 1 then nI (1 - wd) else nI wd)) (5 + p) (if tr_al a b c = 3 then 1 else m_now (5 + p)) ∧ t6 nb at' now' ∧ at' 0 = c_at 0 ∧ at' 1 = c_at 1 ∧ at' 7 = nI p := by
              unfold fX1_cast fX0_shownAs
              rw [n1, b2_some, b1_some, hs, nm_is, tr_alike ha.2 hb.2 hc.2, b1_some]
              have hle := tr_al_le a b c
              by_cases a1 : tr_al a b c = 1
              · refine ⟨upd (upd c_at 8 (nI (100 * a + 10 * b + c))) 6 (nI (1 - wd)), _, ?_, rfl, ?_, ?_, ?_, ?_⟩
                · rw [a1, if_neg (show ¬ ¬ nI 1 = (1 : Int32) from fun q => q rfl), u_no (by omega), w1, show (1 : Int32) - nI wd = nI (1 - wd) from pk_sub (a := 1) (by omega)]; rfl
                · rw [a1, if_pos rfl, if_neg (by decide), fa_upd_same (i := 5 + p) ((u_no (by omega)).trans (u_no (by omega)))]
                  exact t6_wind hnb T1 (by omega)
                · rw [u_no (by omega), u_no (by omega)]
                · rw [u_no (by omega), u_no (by omega)]
                · rw [u_no (by omega), u_no (by omega), e7]
              · have hne : ¬ nI (tr_al a b c) = (1 : Int32) := fun q => a1 ((nI_eq (b := 1) (by omega) (by decide)).mp q)
                by_cases a3 : tr_al a b c = 3
                · refine ⟨upd (upd c_at 8 (nI (100 * a + 10 * b + c))) (4 + p) (nI 1), _, ?_, rfl, ?_, ?_, ?_, ?_⟩
                  · rw [if_pos hne, if_neg (show ¬ ¬ nI (tr_al a b c) = (3 : Int32) from fun q => q (by rw [a3]; rfl)), u_no (show ¬ 7 = 8 by omega), e7, show (4 : Int32) = nI 4 from rfl, nI_add, ck_nI (show 4 + p < 9 by omega) (by decide), cl_nI (show 4 + p < 2 ^ 31 by omega)]; rfl
                  · rw [if_neg a1, if_pos a3, fa_upd_same (i := 1) ((u_no (by omega)).trans w2)]
                    exact t6_blind hnb T1 (v := 1) (by omega) (by omega)
                  · rw [u_no (by omega), u_no (by omega)]
                  · rw [u_no (by omega), u_no (by omega)]
                  · rw [u_no (by omega), u_no (by omega), e7]
                · refine ⟨upd c_at 8 (nI (100 * a + 10 * b + c)), _, ?_, rfl, ?_, ?_, ?_, ?_⟩
                  · rw [if_pos hne, if_pos (show ¬ nI (tr_al a b c) = (3 : Int32) from fun q => a3 ((nI_eq (b := 3) (by omega) (by decide)).mp q))]
                  · rw [if_neg a1, if_neg a3, fa_upd_same (i := 1) ((u_no (by omega)).trans w2), fa_upd_same (i := 5 + p) (u_no (by omega))]
                    exact T1
                  · rw [u_no (by omega)]
                  · rw [u_no (by omega)]
                  · rw [u_no (by omega), e7]
            obtain ⟨at', now', k1, k2, T', k3, k4, k5⟩ := key
            have R' : tr_1 nb g at' now' := ⟨T'.1, T'.2.1, T'.2.2.1, T'.2.2.2.1, T'.2.2.2.2.1, T'.2.2.2.2.2, p, hp, k5, Or.inl ⟨by rw [k3]; exact both.1, by rw [k4]; exact both.2, by rw [k2, u_no (by omega), u_no (by omega), u_no (by omega), w], by rw [k2, u_no (by omega), u_no (by omega), u_no (by omega), e0]⟩⟩
            obtain ⟨x, x1, x2, -, -⟩ := r1_open R' hh0 hnb
            refine ⟨x, at', past', known', now', undone', undos', ?_, ?_, nb, g, k, pp, H, A, hU _ _ R', I0, I1, Ck, X, tr⟩
            · rw [k1, b3_some, x1, b1_some]
            · rw [n2, b2_some, hs, nm_is, nm_is, tr_isDouble ha.2 hb.2 hc.2, b1_some, q_ifeq, u_no (show ¬ 1 = 2 by omega), w2, show (1 : Int32) - nI wd = nI (1 - wd) from pk_sub (a := 1) (by omega)]
              have hi : (if tr_al a b c = 1 then some (nI (1 - wd)) else some (nI wd)) = some (if tr_al a b c = 1 then nI (1 - wd) else nI wd) := by split <;> rfl
              rw [hi, b1_some, nm_is]
              have e0' : upd (upd m_now 2 (nI (100 * a + 10 * b + c))) 1 (if tr_al a b c = 1 then nI (1 - wd) else nI wd) 0 = nI p := by rw [u_no (by omega), u_no (by omega), e0]
              rw [tri _ e0', b1_some, e0', show (5 : Int32) = nI 5 from rfl, nI_add, ck_nI (show 5 + p < 27 by omega) (by decide), cl_nI (show 5 + p < 2 ^ 31 by omega), u_no (show ¬ 5 + p = 1 by omega), u_no (show ¬ 5 + p = 2 by omega), ← k2, nm_is, x2, b1_some]
          · exact ⟨-2, c_at, c_past, c_known, m_now, m_undone, m_undos, by rw [if_neg w], by rw [if_neg w, if_neg (by decide)], hR⟩
        · exact ⟨-2, c_at, c_past, c_known, m_now, m_undone, m_undos, by rw [if_neg z, if_pos (by decide)], by rw [if_pos z], hR⟩
      · exact ⟨-1, c_at, c_past, c_known, m_now, m_undone, m_undos, by rw [if_pos f1, if_pos f2, if_neg f3], by rw [if_pos f1, if_pos f2, if_neg f3], hR⟩
    · exact ⟨-1, c_at, c_past, c_known, m_now, m_undone, m_undos, by rw [if_pos f1, if_neg f2], by rw [if_pos f1, if_neg f2], hR⟩
  · exact ⟨-1, c_at, c_past, c_known, m_now, m_undone, m_undos, by rw [if_neg f1], by rw [if_neg f1], hR⟩

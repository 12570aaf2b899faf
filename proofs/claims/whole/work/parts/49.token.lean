/-! tokens, alike -/
def TX (c : Nat → Nat) (xt mt : Nat → Int32) (n : Nat) : Prop := n ≤ 120 ∧ ∀ j, j < n → c j < 256 ∧ xt j = nI (c j) ∧ mt j = nI (c j)
theorem y_rng {v lo hi : Nat} (hv : v < 256) (hl : lo < 256) (hh : hi < 256) : (if nI v < nI lo then some (0 : Int32) else if nI hi < nI v then some 0 else some 1) = some (if lo ≤ v ∧ v ≤ hi then 1 else 0) := by
  by_cases h1 : v < lo
  · rw [if_pos (nI_lt h1 (by omega)), if_neg (by omega)]
  · rw [if_neg (nI_nlt (by omega) (by omega))]
    by_cases h2 : hi < v
    · rw [if_pos (nI_lt h2 (by omega)), if_neg (by omega)]
    · rw [if_neg (nI_nlt (by omega) (by omega)), if_pos (by omega)]
section TOK
variable {c : Nat → Nat} {xt mt : Nat → Int32} {n : Nat}
theorem y_letX (t : TX c xt mt n) {i : Nat} (hi : i < n) : fX2_isLetter xt (nI i) = some (if 97 ≤ c i ∧ c i ≤ 122 then 1 else 0) := by
  have := t.1
  obtain ⟨h1, h2, h3⟩ := t.2 i hi
  unfold fX2_isLetter
  rw [ck_nI (show i < 120 by omega) (by decide), ck_nI (show i < 120 by omega) (by decide), cl_nI (by omega), h2]
  exact y_rng (lo := 97) (hi := 122) h1 (by decide) (by decide)
theorem y_digX (t : TX c xt mt n) {i : Nat} (hi : i < n) : fX2_isDigit xt (nI i) = some (if 48 ≤ c i ∧ c i ≤ 57 then 1 else 0) := by
  have := t.1
  obtain ⟨h1, h2, h3⟩ := t.2 i hi
  unfold fX2_isDigit
  rw [ck_nI (show i < 120 by omega) (by decide), ck_nI (show i < 120 by omega) (by decide), cl_nI (by omega), h2]
  exact y_rng (lo := 48) (hi := 57) h1 (by decide) (by decide)
theorem y_letM {v : Nat} (hv : v < 256) : fX5_isLetter (nI v) = some (if 97 ≤ v ∧ v ≤ 122 then 1 else 0) := by
  unfold fX5_isLetter
  rw [in_iff, b1_some, bz_if, tr_toInt (by omega), show (97 : Int64).toInt = 97 from rfl, show (122 : Int64).toInt = 122 from rfl]
  congr 1
  by_cases h : 97 ≤ v ∧ v ≤ 122
  · rw [if_pos h, if_pos (by omega)]
  · rw [if_neg h, if_neg (by omega)]
theorem y_digM {v : Nat} (hv : v < 256) : fX5_isFigure (nI v) = some (if 48 ≤ v ∧ v ≤ 57 then 1 else 0) := by
  unfold fX5_isFigure
  rw [in_iff, b1_some, bz_if, tr_toInt (by omega), show (48 : Int64).toInt = 48 from rfl, show (57 : Int64).toInt = 57 from rfl]
  congr 1
  by_cases h : 48 ≤ v ∧ v ≤ 57
  · rw [if_pos h, if_pos (by omega)]
  · rw [if_neg h, if_neg (by omega)]
theorem y_ne {a b : Nat} (ha : a < 2 ^ 31) (hb : b < 2 ^ 31) (h : ¬ a = b) : ¬ nI a = nI b := fun e => h ((nI_eq ha hb).mp e)
theorem y_sp (t : TX c xt mt n) : ∀ m a, a ≤ n → n + 1 ≤ a + m → ∃ s, a ≤ s ∧ s ≤ n ∧ fX2_advance_L8 (nI n) xt m (nI a) = some (nI s) ∧ fX5_reads_L0 mt (nI n) m (nI a) = some (nI s)
  | 0, a, h1, h2 => by omega
  | m + 1, a, h1, h2 => by
    have := t.1
    rw [fX2_advance_L8, fX5_reads_L0]
    by_cases hz : n ≤ a
    · rw [if_pos (nI_le hz (by omega)), if_pos (nI_le hz (by omega))]
      exact ⟨a, by omega, h1, rfl, rfl⟩
    · have ha : a < n := by omega
      obtain ⟨g1, g2, g3⟩ := t.2 a ha
      rw [if_neg (nI_ge ha (by omega)), if_neg (nI_ge ha (by omega)), ck_nI (show a < 120 by omega) (by decide), ck_nI (show a < 120 by omega) (by decide), cl_nI (by omega), g2, g3]
      by_cases q : c a = 32
      · rw [if_neg (fun z => z (by rw [q]; rfl)), if_neg (fun z => z (by rw [q]; rfl)), nm_is, nm_is, nI_1]
        obtain ⟨s, s1, s2, s3, s4⟩ := y_sp t m (a + 1) (by omega) (by omega)
        exact ⟨s, by omega, s2, s3, s4⟩
      · rw [if_pos (show ¬ nI (c a) = (32 : Int32) from y_ne (b := 32) (by omega) (by decide) q), if_pos (show ¬ nI (c a) = (32 : Int32) from y_ne (b := 32) (by omega) (by decide) q)]
        exact ⟨a, by omega, h1, rfl, rfl⟩
theorem y_lt (t : TX c xt mt n) : ∀ m a, a ≤ n → n + 1 ≤ a + m → ∃ s, a ≤ s ∧ s ≤ n ∧ fX2_skipLetters_L8 (nI n) xt m (nI a) = some (nI s) ∧ fX5_readLetters_L13 mt (nI n) m (nI a) = some (nI s) ∧ (a < n → (97 ≤ c a ∧ c a ≤ 122) → a < s)
  | 0, a, h1, h2 => by omega
  | m + 1, a, h1, h2 => by
    have := t.1
    rw [fX2_skipLetters_L8, fX5_readLetters_L13]
    by_cases hz : n ≤ a
    · rw [if_pos (nI_le hz (by omega)), if_pos (nI_le hz (by omega))]
      exact ⟨a, by omega, h1, rfl, rfl, fun q => by omega⟩
    · have ha : a < n := by omega
      obtain ⟨g1, g2, g3⟩ := t.2 a ha
      rw [if_neg (nI_ge ha (by omega)), if_neg (nI_ge ha (by omega)), y_letX t ha, b1_some, q_ifeq, ck_nI (show a < 120 by omega) (by decide), cl_nI (by omega), g3, y_letM g1, b1_some, q_ifeq]
      by_cases q : 97 ≤ c a ∧ c a ≤ 122
      · rw [if_pos q, if_pos q, nm_is, nm_is, nI_1]
        obtain ⟨s, s1, s2, s3, s4, -⟩ := y_lt t m (a + 1) (by omega) (by omega)
        exact ⟨s, by omega, s2, s3, s4, fun _ _ => by omega⟩
      · rw [if_neg q, if_neg q]
        exact ⟨a, by omega, h1, rfl, rfl, fun _ z => absurd z q⟩
def Nr (x m : Int32) : Prop := (∃ v, v ≤ 99 ∧ x = nI v ∧ m = nI v) ∨ (x = nI 100 ∧ ∃ w, 100 ≤ w ∧ w ≤ 999 ∧ m = nI w)
theorem y_step {x m : Int32} {d : Nat} (N : Nr x m) (h1 : 48 ≤ d) (h2 : d ≤ 57) : ∃ x' m', Nr x' m' ∧ (if 100 < ((x * 10) + nI d) - 48 then (100 : Int32) else ((x * 10) + nI d) - 48) = x' ∧ (if m ≤ 99 then some (((10 * m) + nI d) - 48) else some m) = some m' := by
  have e10 : (10 : Int32) = nI 10 := rfl
  have e48 : ∀ a, 48 ≤ a → nI a - (48 : Int32) = nI (a - 48) := fun a ha => pk_sub (b := 48) ha
  rcases N with ⟨v, hv, rfl, rfl⟩ | ⟨rfl, w, w1, w2, rfl⟩
  · rw [e10, pk_mul, pk_mul, nI_add, nI_add, e48 _ (by omega), e48 _ (by omega), if_pos (show nI v ≤ (99 : Int32) from nI_le (b := 99) hv (by decide)), show 10 * v + d = v * 10 + d by omega]
    by_cases hb : 100 < v * 10 + d - 48
    · exact ⟨nI 100, nI (v * 10 + d - 48), Or.inr ⟨rfl, _, by omega, by omega, rfl⟩, if_pos (show (100 : Int32) < nI (v * 10 + d - 48) from nI_lt (a := 100) hb (by omega)), rfl⟩
    · by_cases h100 : v * 10 + d - 48 = 100
      · exact ⟨nI 100, nI 100, Or.inr ⟨rfl, 100, by omega, by omega, rfl⟩, by rw [h100]; rfl, by rw [h100]⟩
      · exact ⟨_, _, Or.inl ⟨v * 10 + d - 48, by omega, rfl, rfl⟩, if_neg (show ¬ (100 : Int32) < nI (v * 10 + d - 48) from nI_nlt (a := 100) (by omega) (by omega)), rfl⟩
  · rw [e10, pk_mul, nI_add, e48 _ (by omega), if_neg (show ¬ nI w ≤ (99 : Int32) from nI_ge (a := 99) (by omega) (by omega))]
    exact ⟨nI 100, nI w, Or.inr ⟨rfl, w, w1, w2, rfl⟩, if_pos (show (100 : Int32) < nI (100 * 10 + d - 48) from nI_lt (a := 100) (by omega) (by omega)), rfl⟩
theorem y_dg (t : TX c xt mt n) : ∀ m a x y, Nr x y → a ≤ n → n + 1 ≤ a + m → ∃ s x' y', a ≤ s ∧ s ≤ n ∧ Nr x' y' ∧ fX2_scanNumber_L13 (nI n) xt m (nI a) x = some (nI s, x') ∧ fX5_readNumber_L2 mt (nI n) m (nI a) y = some (nI s, y') ∧ (a < n → (48 ≤ c a ∧ c a ≤ 57) → a < s)
  | 0, a, x, y, N, h1, h2 => by omega
  | m + 1, a, x, y, N, h1, h2 => by
    have := t.1
    rw [fX2_scanNumber_L13, fX5_readNumber_L2]
    by_cases hz : n ≤ a
    · rw [if_pos (nI_le hz (by omega)), if_pos (nI_le hz (by omega))]
      exact ⟨a, x, y, by omega, h1, N, rfl, rfl, fun q => by omega⟩
    · have ha : a < n := by omega
      obtain ⟨g1, g2, g3⟩ := t.2 a ha
      rw [if_neg (nI_ge ha (by omega)), if_neg (nI_ge ha (by omega)), y_digX t ha, b1_some, q_ifeq]
      simp only [ck_nI (show a < 120 by omega) (show 120 < 2 ^ 31 by decide), cl_nI (show a < 2 ^ 31 by omega), g2, g3, y_digM g1, b1_some, q_ifeq]
      by_cases q : 48 ≤ c a ∧ c a ≤ 57
      · obtain ⟨x', y', N', e1, e2⟩ := y_step N q.1 q.2
        rw [if_pos q, if_pos q, e1, e2, b1_some, nm_is, nm_is, nm_is, nI_1]
        obtain ⟨s, x2, y2, s1, s2, s3, s4, s5, -⟩ := y_dg t m (a + 1) x' y' N' (by omega) (by omega)
        exact ⟨s, x2, y2, by omega, s2, s3, s4, s5, fun _ _ => by omega⟩
      · rw [if_neg q, if_neg q]
        exact ⟨a, x, y, by omega, h1, N, rfl, rfl, fun _ z => absurd z q⟩
/-- one token on both sides -/
def Tk (c : Nat → Nat) (n : Nat) (kind : Int32) (s e : Nat) (num at_ token told : Int32) : Prop :=
  (kind = 0 ∧ token = 0) ∨
  (kind = 1 ∧ s < e ∧ e ≤ n ∧ at_ = nI e ∧ ((e = s + 1 ∧ (c s = 100 ∨ c s = 98 ∨ c s = 103) ∧ token = 1 ∧ told = nI (c s)) ∨ (¬ (e = s + 1 ∧ (c s = 100 ∨ c s = 98 ∨ c s = 103)) ∧ token = 4))) ∨
  (kind = 2 ∧ token = 2 ∧ s < e ∧ e ≤ n ∧ at_ = nI e ∧ ∃ v, v ≤ 99 ∧ num = nI v ∧ told = nI v) ∨
  (kind = 3 ∧ token = 3 ∧ s < e ∧ e ≤ n ∧ at_ = nI e) ∨
  (kind = 4 ∧ token = 4 ∧ s < e ∧ e ≤ n)
theorem y_adv (t : TX c xt mt n) {a : Nat} (ha : a ≤ n) (num told : Int32) : ∃ kind s e num' at' token told', fX2_advance (nI n) (nI a) num xt = some (kind, nI s, nI e, num') ∧ fX5_reads mt (nI n) (nI a) told = some (at', nI s, token, told') ∧ a ≤ s ∧ s ≤ n ∧ e ≤ n ∧ (¬ kind = 0 → s < n) ∧ Tk c n kind s e num' at' token told' := by
  have hn := t.1
  obtain ⟨s, s1, s2, s3, s4⟩ := y_sp t 400 a ha (by omega)
  unfold fX2_advance fX5_reads
  rw [s3, b1_some, s4, b1_some]
  by_cases hz : s = n
  · subst hz
    rw [if_neg (nI_nlt (Nat.le_refl _) (by omega)), if_neg (fun q => q rfl)]
    exact ⟨0, s, s, num, nI s, 0, told, rfl, rfl, s1, s2, Nat.le_refl _, fun q => absurd rfl q, Or.inl ⟨rfl, rfl⟩⟩
  · have hs : s < n := by omega
    obtain ⟨g1, g2, g3⟩ := t.2 s hs
    rw [if_pos (nI_lt hs (by omega)), if_pos (y_ne (by omega) (by omega) hz), y_letX t hs, b1_some, q_ifeq, y_digX t hs, b1_some, q_ifeq]
    simp only [ck_nI (show s < 120 by omega) (show 120 < 2 ^ 31 by decide), cl_nI (show s < 2 ^ 31 by omega), g2, g3, y_letM g1, y_digM g1, b1_some, q_ifeq]
    by_cases hl : 97 ≤ c s ∧ c s ≤ 122
    · obtain ⟨e, e1, e2, e3, e4, e5⟩ := y_lt t 400 s s2 (by omega)
      have e6 := e5 hs hl
      unfold fX2_skipLetters fX5_readLetters
      rw [if_pos hl, if_pos hl, e3, b1_some, b1_some, ck_nI (show s < 120 by omega) (by decide), cl_nI (by omega), g3, nm_is, e4, b1_some, pk_sub e1]
      by_cases q : e = s + 1 ∧ (c s = 100 ∨ c s = 98 ∨ c s = 103)
      · refine ⟨1, s, e, num, nI e, 1, nI (c s), rfl, ?_, s1, s2, e2, fun _ => hs, Or.inr (Or.inl ⟨rfl, e6, e2, rfl, Or.inl ⟨q.1, q.2, rfl, rfl⟩⟩)⟩
        rw [if_neg (fun z => z (by rw [q.1, show s + 1 - s = 1 by omega]; rfl))]
        rcases q.2 with q2 | q2 | q2
        · rw [q2]; rfl
        · rw [q2]; rfl
        · rw [q2]; rfl
      · refine ⟨1, s, e, num, nI e, 4, nI (c s), rfl, ?_, s1, s2, e2, fun _ => hs, Or.inr (Or.inl ⟨rfl, e6, e2, rfl, Or.inr ⟨q, rfl⟩⟩)⟩
        by_cases h1 : e - s = 1
        · rw [if_neg (fun z => z (by rw [h1]; rfl)), if_neg (show ¬ nI (c s) = (100 : Int32) from y_ne (b := 100) (by omega) (by decide) (fun z => q ⟨by omega, Or.inl z⟩)), if_neg (show ¬ nI (c s) = (98 : Int32) from y_ne (b := 98) (by omega) (by decide) (fun z => q ⟨by omega, Or.inr (Or.inl z)⟩)), if_pos (show ¬ nI (c s) = (103 : Int32) from y_ne (b := 103) (by omega) (by decide) (fun z => q ⟨by omega, Or.inr (Or.inr z)⟩))]; rfl
        · rw [if_pos (show ¬ nI (e - s) = (1 : Int32) from y_ne (b := 1) (by omega) (by decide) h1)]; rfl
    · rw [if_neg hl, if_neg hl]
      by_cases hd : 48 ≤ c s ∧ c s ≤ 57
      · obtain ⟨e, x, y, e1, e2, N, e3, e4, e5⟩ := y_dg t 400 s 0 0 (Or.inl ⟨0, by omega, rfl, rfl⟩) s2 (by omega)
        have e6 := e5 hs hd
        unfold fX2_scanNumber fX5_readNumber
        rw [if_pos hd, if_pos hd, e3, b2_some, e4, b2_some, ck_nI (show s < 120 by omega) (by decide), ck_nI (show s < 120 by omega) (by decide), cl_nI (by omega), g2, g3, pk_sub e1]
        have l0 : (if ¬ nI (c s) = (48 : Int32) then some (0 : Int32) else if nI (e - s) ≤ 1 then some 0 else some 1) = some (if c s = 48 ∧ 1 < e - s then 1 else 0) := by
          by_cases q : c s = 48
          · rw [if_neg (fun z => z (by rw [q]; rfl))]
            by_cases q2 : e - s ≤ 1
            · rw [if_pos (show nI (e - s) ≤ (1 : Int32) from nI_le (b := 1) q2 (by decide)), if_neg (by omega)]
            · rw [if_neg (show ¬ nI (e - s) ≤ (1 : Int32) from nI_ge (a := 1) (by omega) (by omega)), if_pos (by omega)]
          · rw [if_pos (show ¬ nI (c s) = (48 : Int32) from y_ne (b := 48) (by omega) (by decide) q), if_neg (by omega)]
        have l1 : (if nI (e - s) ≤ 1 then some (2 : Int32) else if ¬ nI (c s) = (48 : Int32) then some 2 else some 4) = some (if c s = 48 ∧ 1 < e - s then 4 else 2) := by
          by_cases q2 : e - s ≤ 1
          · rw [if_pos (show nI (e - s) ≤ (1 : Int32) from nI_le (b := 1) q2 (by decide)), if_neg (by omega)]
          · rw [if_neg (show ¬ nI (e - s) ≤ (1 : Int32) from nI_ge (a := 1) (by omega) (by omega))]
            by_cases q : c s = 48
            · rw [if_neg (fun z => z (by rw [q]; rfl)), if_pos (by omega)]
            · rw [if_pos (show ¬ nI (c s) = (48 : Int32) from y_ne (b := 48) (by omega) (by decide) q), if_neg (by omega)]
        rw [l0, b1_some, q_ifne, l1]
        rcases N with ⟨v, hv, rfl, rfl⟩ | ⟨rfl, w, w1, w2, rfl⟩
        · rw [if_pos (show nI v ≤ (99 : Int32) from nI_le (b := 99) hv (by decide)), if_neg (show ¬ (99 : Int32) < nI v from nI_nlt (a := 99) hv (by decide))]
          by_cases q : c s = 48 ∧ 1 < e - s
          · rw [if_pos q, if_pos q]
            exact ⟨4, s, e, nI v, nI e, 4, nI v, rfl, rfl, s1, s2, e2, fun _ => hs, Or.inr (Or.inr (Or.inr (Or.inr ⟨rfl, rfl, e6, e2⟩)))⟩
          · rw [if_neg q, if_neg q]
            exact ⟨2, s, e, nI v, nI e, 2, nI v, rfl, rfl, s1, s2, e2, fun _ => hs, Or.inr (Or.inr (Or.inl ⟨rfl, rfl, e6, e2, rfl, v, hv, rfl, rfl⟩))⟩
        · rw [if_neg (show ¬ nI 100 ≤ (99 : Int32) by decide), if_pos (show (99 : Int32) < nI w from nI_lt (a := 99) (by omega) (by omega)), ite_self]
          exact ⟨4, s, e, nI 100, nI e, 4, nI w, rfl, rfl, s1, s2, e2, fun _ => hs, Or.inr (Or.inr (Or.inr (Or.inr ⟨rfl, rfl, e6, e2⟩)))⟩
      · rw [if_neg hd, if_neg hd]
        by_cases q : c s = 59
        · refine ⟨3, s, s + 1, num, nI (s + 1), 3, told, ?_, ?_, s1, s2, by omega, fun _ => hs, Or.inr (Or.inr (Or.inr (Or.inl ⟨rfl, rfl, by omega, by omega, rfl⟩)))⟩
          · rw [if_neg (fun z => z (by rw [q]; rfl)), b1_some, nm_is, nI_1]
          · rw [if_neg (fun z => z (by rw [q]; rfl)), b1_some, if_neg (by decide), b1_some, nm_is, nI_1]
        · refine ⟨4, s, s + 1, num, nI s + 0, 4, told, ?_, ?_, s1, s2, by omega, fun _ => hs, Or.inr (Or.inr (Or.inr (Or.inr ⟨rfl, rfl, by omega, by omega⟩)))⟩
          · rw [if_pos (show ¬ nI (c s) = (59 : Int32) from y_ne (b := 59) (by omega) (by decide) q), b1_some, nm_is, nI_1]
          · rw [if_pos (show ¬ nI (c s) = (59 : Int32) from y_ne (b := 59) (by omega) (by decide) q), b1_some, if_pos (by decide), b1_some, nm_is]
end TOK

/-! ===== numbers: the reference's forms are the class's ===== -/
theorem i_add {a b : Int32} (h1 : -2147483648 ≤ a.toInt + b.toInt) (h2 : a.toInt + b.toInt < 2147483648) : (a + b).toInt = a.toInt + b.toInt := by
  rw [Int32.toInt_add]; exact Int.bmod_eq_of_le (by omega) (by omega)
theorem i_sub {a b : Int32} (h1 : -2147483648 ≤ a.toInt - b.toInt) (h2 : a.toInt - b.toInt < 2147483648) : (a - b).toInt = a.toInt - b.toInt := by
  rw [Int32.toInt_sub]; exact Int.bmod_eq_of_le (by omega) (by omega)
def m_pre (ai own x : Int32) : Int32 := if s_warm ai own ≤ 2 then (if own ≤ 0 then (if 0 ≤ ai then x else x - 1) else x) else x + (s_warm ai own - 2)
def m_clamp (z : Int32) : Int32 := if 0 ≤ z then (if z ≤ 5000 then z else 5000) else 0
theorem m_warm1 {ai own : Int32} (h1 : ¬ own ≤ 0) (h : 4 ≤ ai) : ai = s_warm ai own := by
  unfold s_warm s_max
  rw [if_neg h1, if_neg (fun q => by rw [Int32.lt_iff_toInt_lt] at q; rw [Int32.le_iff_toInt_le] at h; omega)]
theorem m_warm2 {ai own : Int32} (h1 : ¬ own ≤ 0) (h : ¬ 4 ≤ ai) : 4 = s_warm ai own := by
  unfold s_warm s_max
  rw [if_neg h1, if_pos (by rw [Int32.lt_iff_toInt_lt]; rw [Int32.le_iff_toInt_le] at h; omega)]
def aiB (ai : Int32) : Prop := -20 ≤ ai.toInt ∧ ai.toInt ≤ 30
def nB (n : Nat) (x : Int32) : Prop := ∃ g : Nat, g ≤ n ∧ x = nI g
theorem nB_int {n : Nat} (hn : n < 2 ^ 31) {x : Int32} : nB n x ↔ 0 ≤ x.toInt ∧ x.toInt ≤ n := by
  constructor
  · rintro ⟨g, hg, rfl⟩
    rw [nI_toInt (by omega)]
    omega
  · rintro ⟨h0, h1⟩
    obtain ⟨j, hj, rfl⟩ := nI_of (x := x) (by rw [Int32.lt_iff_toInt_lt, Int32.toInt_zero]; omega)
    rw [nI_toInt hj] at h1
    exact ⟨j, by omega, rfl⟩
theorem s_warm_B {ai own : Int32} (ha : aiB ai) : -20 ≤ (s_warm ai own).toInt ∧ (s_warm ai own).toInt ≤ 30 ∧ (¬ own ≤ 0 → 4 ≤ (s_warm ai own).toInt) ∧ (own ≤ 0 → s_warm ai own = ai) := by
  obtain ⟨h1, h2⟩ := ha
  unfold s_warm s_max
  have e4 : (4 : Int32).toInt = 4 := rfl
  split
  · exact ⟨h1, h2, fun q => absurd (by assumption) q, fun _ => rfl⟩
  · rename_i hn
    split
    · refine ⟨by rw [e4]; omega, by rw [e4]; omega, fun _ => by rw [e4]; omega, fun q => absurd q hn⟩
    · rename_i h4
      rw [Int32.lt_iff_toInt_lt, e4] at h4
      exact ⟨h1, h2, fun _ => by omega, fun q => absurd q hn⟩
theorem m_clamp_pre {ai own x : Int32} (ha : aiB ai) (hx : nB 5000 x) : m_clamp (m_pre ai own x) = s_grow ai own x := by
  obtain ⟨w1, w2, w3, w4⟩ := s_warm_B (own := own) ha
  have hx := (nB_int (by decide)).mp hx
  have e0 : (0 : Int32).toInt = 0 := rfl
  have e1 : (1 : Int32).toInt = 1 := rfl
  have e2 : (2 : Int32).toInt = 2 := rfl
  have e5 : (5000 : Int32).toInt = 5000 := rfl
  unfold m_pre s_grow
  by_cases hw : s_warm ai own ≤ 2
  · rw [if_pos hw, if_pos hw]
    by_cases ho : own ≤ 0
    · rw [if_pos ho, w4 ho]
      by_cases h0 : 0 ≤ ai
      · rw [if_pos h0, if_pos h0]
        unfold m_clamp
        rw [if_pos (by rw [Int32.le_iff_toInt_le]; omega), if_pos (by rw [Int32.le_iff_toInt_le]; omega)]
      · rw [if_neg h0, if_neg h0]
        have hs : (x - 1).toInt = x.toInt - 1 := by rw [i_sub] <;> rw [e1] <;> omega
        unfold m_clamp s_max
        by_cases h1 : 0 ≤ x - 1
        · rw [if_pos h1, if_pos (by rw [Int32.le_iff_toInt_le]; omega)]
          by_cases h2 : 0 < x - 1
          · rw [if_pos h2]
          · rw [if_neg h2]
            rw [Int32.lt_iff_toInt_lt] at h2
            rw [Int32.le_iff_toInt_le] at h1
            exact Int32.toInt_inj.mp (by omega)
        · rw [if_neg h1, if_neg]
          intro q
          rw [Int32.lt_iff_toInt_lt] at q
          rw [Int32.le_iff_toInt_le] at h1
          omega
    · exact absurd hw (by have := w3 ho; rw [Int32.le_iff_toInt_le]; omega)
  · rw [if_neg hw, if_neg hw]
    rw [Int32.le_iff_toInt_le, e2] at hw
    have hs : (x + (s_warm ai own - 2)).toInt = x.toInt + ((s_warm ai own).toInt - 2) := by
      have h1 : (s_warm ai own - 2).toInt = (s_warm ai own).toInt - 2 := by rw [i_sub] <;> rw [e2] <;> omega
      rw [i_add] <;> rw [h1] <;> omega
    have he : x + s_warm ai own - 2 = x + (s_warm ai own - 2) := by grind
    rw [he]
    unfold m_clamp s_min
    rw [if_pos (by rw [Int32.le_iff_toInt_le]; omega)]
    by_cases h5 : x + (s_warm ai own - 2) ≤ 5000
    · rw [if_pos h5]
      by_cases h6 : x + (s_warm ai own - 2) < 5000
      · rw [if_pos h6]
      · rw [if_neg h6]
        rw [Int32.le_iff_toInt_le] at h5
        rw [Int32.lt_iff_toInt_lt] at h6
        exact Int32.toInt_inj.mp (by omega)
    · rw [if_neg h5, if_neg]
      intro q
      rw [Int32.le_iff_toInt_le] at h5
      rw [Int32.lt_iff_toInt_lt] at q
      omega
theorem s_grow_B {ai own x : Int32} (ha : aiB ai) (hx : nB 5000 x) : nB 5000 (s_grow ai own x) := by
  rw [← m_clamp_pre ha hx]
  unfold m_clamp
  split
  · rename_i h0
    split
    · rename_i h1
      rw [Int32.le_iff_toInt_le] at h0 h1
      exact (nB_int (by decide)).mpr ⟨h0, h1⟩
    · exact ⟨5000, Nat.le_refl _, rfl⟩
  · exact ⟨0, by omega, rfl⟩
theorem m_min1 {a b : Int32} (h : a ≤ b) : a = s_min a b := by
  unfold s_min
  rw [if_neg (fun q => by rw [Int32.lt_iff_toInt_lt] at q; rw [Int32.le_iff_toInt_le] at h; omega)]
theorem m_min2 {a b : Int32} (h : ¬ a ≤ b) : b = s_min a b := by
  unfold s_min
  rw [if_pos (by rw [Int32.lt_iff_toInt_lt]; rw [Int32.le_iff_toInt_le] at h; omega)]
theorem m_minL {a b : Int32} (h : ¬ b ≤ a) : a = s_min a b := by
  refine m_min1 ?_
  rw [Int32.le_iff_toInt_le] at h ⊢; omega
theorem m_minR {a b : Int32} (h : b ≤ a) : b = s_min a b := by
  unfold s_min
  split
  · rfl
  · rename_i q
    rw [Int32.lt_iff_toInt_lt] at q
    rw [Int32.le_iff_toInt_le] at h
    exact Int32.toInt_inj.mp (by omega)
theorem s_min_nI {a b : Nat} (ha : a < 2 ^ 31) (hb : b < 2 ^ 31) : s_min (nI a) (nI b) = nI (min a b) := by
  unfold s_min
  by_cases h : nI b < nI a
  · rw [if_pos h]
    rw [nI_ltI hb ha] at h
    rw [Nat.min_eq_right (by omega)]
  · rw [if_neg h]
    rw [nI_ltI hb ha] at h
    rw [Nat.min_eq_left (by omega)]
theorem s_bite_B {gz sh x : Int32} {n : Nat} (hn : n < 2 ^ 31) (hs : nB 50 sh) (hx : nB n x) : ∃ b g : Nat, b ≤ g ∧ g ≤ n ∧ x = nI g ∧ s_bite gz sh x = nI b := by
  obtain ⟨g, hg, rfl⟩ := hx
  obtain ⟨m, hm, rfl⟩ := hs
  unfold s_bite
  split
  · exact ⟨0, g, by omega, hg, rfl, rfl⟩
  · rw [s_min_nI (by omega) (by omega)]
    exact ⟨min m g, g, by omega, hg, rfl, rfl⟩
theorem s_grF_B {ai gz : Int32} {go sh gr : Nat → Int32} {j : Nat} (ha : aiB ai) (hs : nB 50 (sh j)) (hg : nB 5000 (gr j)) : nB 5000 (s_grF ai gz go sh gr j) := by
  unfold s_grF
  obtain ⟨b, g, hb, hg5, e1, e2⟩ := s_bite_B (gz := gz) (by decide) hs (s_grow_B (own := go j) ha hg)
  rw [e2, e1, pk_sub hb]
  exact ⟨g - b, by omega, rfl⟩
theorem s_most_B (w c : Int32) : ∃ M : Nat, M < 2 ^ 31 ∧ s_most w c = nI M := by
  unfold s_most s_max
  split
  · rename_i h
    obtain ⟨j, hj, e⟩ := nI_of (x := w - c / 100 / 10) (fun q => by
      rw [Int32.lt_iff_toInt_lt] at h q
      omega)
    exact ⟨j, hj, e⟩
  · exact ⟨0, by omega, rfl⟩
theorem s_take_B {nv h w q wi ca : Int32} {W : Nat} (hW : W ≤ 1000) (hw : w = nI W) (hq : nB 4 q) : ∃ T : Nat, T ≤ W ∧ s_take nv h w q wi ca = nI T := by
  obtain ⟨M, hM, eM⟩ := s_most_B wi ca
  have hq' : ∃ Q : Nat, Q ≤ 4 ∧ s_q nv h q = nI Q := by
    unfold s_q; split
    · exact ⟨0, by omega, rfl⟩
    · exact hq
  obtain ⟨Q, hQ, eQ⟩ := hq'
  have hWQ : W * Q ≤ W * 4 := Nat.mul_le_mul_left _ hQ
  refine ⟨min (W * Q / 4) M, by omega, ?_⟩
  unfold s_take
  rw [eM, eQ, hw, pk_mul, show (4 : Int32) = nI 4 from rfl, pk_div (by omega) (by omega) (by omega), s_min_nI (by omega) hM]
theorem s_own_nI {T n p : Nat} (hT : T ≤ 1000) (hn : 1 ≤ n) (hn4 : n ≤ 4) (hp : p < 4) : s_own (nI T) (nI n) (nI p) = nI (if T % n ≤ p then T / n else T / n + 1) := by
  unfold s_own s_mod
  have h1 : T / n ≤ T := Nat.div_le_self _ _
  have h2 : T % n < n := Nat.mod_lt _ hn
  rw [pk_rem (by omega) (by omega) (by omega), pk_div (by omega) (by omega) (by omega)]
  by_cases h : T % n ≤ p
  · rw [if_pos h, if_pos (nI_le h (by omega))]
  · rw [if_neg h, if_neg (nI_ge (by omega) (by omega)), nI_1]
def m_own (t m : Int32) : Nat → Int32
  | 0 => 0
  | p + 1 => m_own t m p + s_own t m (nI p)
/-- the water behind p panes, as the reference keeps it -/
def m_w (t m w : Int32) : Nat → Int32
  | 0 => w - t
  | p + 1 => m_w t m w p + (s_own t m (nI p) - s_min (s_own t m (nI p)) 3)
theorem m_w_eq (t m w : Int32) (p : Nat) : m_w t m w p = w - t + m_own t m p - s_sips t m p := by
  induction p with
  | zero => show w - t = w - t + 0 - 0; grind
  | succ p ih =>
    show m_w t m w p + (s_own t m (nI p) - s_min (s_own t m (nI p)) 3) = w - t + (m_own t m p + s_own t m (nI p)) - (s_sips t m p + s_min (s_own t m (nI p)) 3)
    rw [ih]; grind
theorem m_own_all {T n : Nat} (hT : T ≤ 1000) (hn : 1 ≤ n) (hn4 : n ≤ 4) : m_own (nI T) (nI n) n = nI T := by
  have o : ∀ p, p < 4 → s_own (nI T) (nI n) (nI p) = nI (if T % n ≤ p then T / n else T / n + 1) := fun p hp => s_own_nI hT hn hn4 hp
  rcases (show n = 1 ∨ n = 2 ∨ n = 3 ∨ n = 4 by omega) with rfl | rfl | rfl | rfl
  · show (0 : Int32) + s_own _ _ (nI 0) = _
    rw [o 0 (by omega), show (0 : Int32) = nI 0 from rfl, nI_add]
    refine congrArg nI ?_
    split <;> omega
  · show (0 : Int32) + s_own _ _ (nI 0) + s_own _ _ (nI 1) = _
    rw [o 0 (by omega), o 1 (by omega), show (0 : Int32) = nI 0 from rfl, nI_add, nI_add]
    refine congrArg nI ?_
    split <;> split <;> omega
  · show (0 : Int32) + s_own _ _ (nI 0) + s_own _ _ (nI 1) + s_own _ _ (nI 2) = _
    rw [o 0 (by omega), o 1 (by omega), o 2 (by omega), show (0 : Int32) = nI 0 from rfl, nI_add, nI_add, nI_add]
    refine congrArg nI ?_
    split <;> split <;> split <;> omega
  · show (0 : Int32) + s_own _ _ (nI 0) + s_own _ _ (nI 1) + s_own _ _ (nI 2) + s_own _ _ (nI 3) = _
    rw [o 0 (by omega), o 1 (by omega), o 2 (by omega), o 3 (by omega), show (0 : Int32) = nI 0 from rfl, nI_add, nI_add, nI_add, nI_add]
    refine congrArg nI ?_
    split <;> split <;> split <;> split <;> omega
theorem m_w_all {T n : Nat} (w : Int32) (hT : T ≤ 1000) (hn : 1 ≤ n) (hn4 : n ≤ 4) : m_w (nI T) (nI n) w n = w - s_sips (nI T) (nI n) n := by
  rw [m_w_eq, m_own_all hT hn hn4]; grind
theorem s_sips_B {T n : Nat} (hT : T ≤ 1000) (hn : 1 ≤ n) (hn4 : n ≤ 4) : ∃ S : Nat, S ≤ T ∧ s_sips (nI T) (nI n) n = nI S := by
  have key : ∀ p, p ≤ n → ∃ S O : Nat, S ≤ O ∧ O ≤ 5000 ∧ s_sips (nI T) (nI n) p = nI S ∧ m_own (nI T) (nI n) p = nI O ∧ O ≤ p * 1001 := by
    intro p
    induction p with
    | zero => intro _; exact ⟨0, 0, Nat.le_refl _, Nat.zero_le _, nI_0.symm, nI_0.symm, Nat.zero_le _⟩
    | succ p ih =>
      intro hp
      obtain ⟨S, O, h1, h2, h3, h4, h5⟩ := ih (by omega)
      have ho := s_own_nI hT hn hn4 (p := p) (by omega)
      have hb : (if T % n ≤ p then T / n else T / n + 1) ≤ 1001 := by
        have := Nat.div_le_self T n
        split <;> omega
      generalize (if T % n ≤ p then T / n else T / n + 1) = o at ho hb
      refine ⟨S + min o 3, O + o, by omega, by omega, ?_, ?_, by omega⟩
      · show s_sips _ _ p + s_min (s_own _ _ (nI p)) 3 = _
        rw [h3, ho, show (3 : Int32) = nI 3 from rfl, s_min_nI (by omega) (by omega), nI_add]
      · show m_own _ _ p + s_own _ _ (nI p) = _
        rw [h4, ho, nI_add]
  obtain ⟨S, O, h1, h2, h3, h4, -⟩ := key n (Nat.le_refl _)
  rw [m_own_all hT hn hn4, nI_eq (by omega) (by omega)] at h4
  exact ⟨S, by omega, h3⟩
theorem m_q1 {s i : Nat} {q : Int32} (hs : s < 7) (hi : i < 6) (h : nI s = nI i + 1) : 0 = s_q (nvF s) (nI i) q := by
  unfold s_q
  rw [nI_1, nI_eq (by omega) (by omega)] at h
  subst h
  show 0 = if nI i = nI i then 0 else q
  rw [if_pos rfl]
theorem m_q2 {s i : Nat} {q : Int32} (hs : s < 7) (hi : i < 6) (h : ¬ nI s = nI i + 1) : q = s_q (nvF s) (nI i) q := by
  unfold s_q
  rw [nI_1, nI_eq (by omega) (by omega)] at h
  rw [if_neg]
  cases s with
  | zero =>
    intro e
    have := congrArg Int32.toInt e
    rw [nI_toInt (by omega)] at this
    have e1 : (nvF 0).toInt = -1 := rfl
    omega
  | succ k =>
    intro e
    exact h (by have := (nI_eq (a := i) (b := k) (by omega) (by omega)).mp e; omega)
/-- what an hour keeps of a course's water and grass -/
theorem s_run_B {nv ai gz : Int32} {wi qu sh : Nat → Int32} {pn : Nat → Nat} {hk : Nat} {x : PS} (ha : aiB ai) (hq : ∀ h, h < hk → nB 4 (qu h)) (hp : ∀ h, h < hk → 1 ≤ pn h ∧ pn h ≤ 4) (hsh : ∀ j, nB 50 (sh j)) (hw : nB 1000 (P_w x)) (hg : ∀ j, nB 5000 (P_gr x j)) :
    ∀ i, i ≤ hk → nB 1000 (P_w (s_run nv ai gz wi qu sh pn i x)) ∧ ∀ j, nB 5000 (P_gr (s_run nv ai gz wi qu sh pn i x) j) := by
  intro i
  induction i with
  | zero => intro _; exact ⟨hw, hg⟩
  | succ i ih =>
    intro hi
    obtain ⟨⟨W, hW, eW⟩, h2⟩ := ih (by omega)
    obtain ⟨T, hT, eT⟩ := s_take_B (nv := nv) (h := nI i) (wi := wi i) (ca := P_ca (s_run nv ai gz wi qu sh pn i x) i) hW eW (hq i (by omega))
    obtain ⟨p1, p4⟩ := hp i (by omega)
    show nB 1000 (P_w (s_hat nv ai gz wi qu sh pn i (s_run nv ai gz wi qu sh pn i x))) ∧ ∀ j, nB 5000 (P_gr (s_hat nv ai gz wi qu sh pn i (s_run nv ai gz wi qu sh pn i x)) j)
    unfold s_hat
    rw [eT]
    generalize s_run nv ai gz wi qu sh pn i x = y at *
    obtain ⟨S, hS, eS⟩ := s_sips_B (T := T) (n := pn i) (by omega) p1 p4
    refine ⟨⟨W - S, by omega, ?_⟩, fun j => ?_⟩
    · show P_w y - s_sips (nI T) (nI (pn i)) (pn i) = _
      rw [eW, eS, pk_sub (by omega)]
    · show nB 5000 (s_rng _ _ _ _ j)
      unfold s_rng
      split
      · exact s_grF_B ha (hsh j) (h2 j)
      · exact h2 j

/-! ===== the two sides answer alike; what every run keeps ===== -/
theorem eq_told {ish what fa wi pa qu ca mo tk : Int32} : m_told ish what (s_in what 0 7) fa wi pa qu ca mo tk = s_told ish what fa wi pa qu ca mo tk := by
  unfold m_told s_told
  by_cases hi : ish = 0
  · rw [if_pos hi, if_pos hi]
  rw [if_neg hi, if_neg hi]
  by_cases hw : s_in what 0 7 = 0
  · have n : ∀ v : Int32, s_in v 0 7 = 1 → ¬ what = v := fun v hv e => by rw [e, hv] at hw; exact absurd hw (by decide)
    rw [if_pos hw, if_neg (n 0 (by decide)), if_neg (n 1 (by decide)), if_neg (n 2 (by decide)), if_neg (n 3 (by decide)), if_neg (n 4 (by decide)), if_neg (n 5 (by decide)), if_neg (n 6 (by decide)), if_neg (n 7 (by decide))]
  · rw [if_neg hw]
    have hx := s_in_ix (a := 0) (b := 7) hw rfl rfl (by decide) (by decide)
    by_cases w0 : what = 0
    · rw [if_pos w0, if_pos w0]
    rw [if_neg w0, if_neg w0]
    by_cases w1 : what = 1
    · rw [if_pos w1, if_pos w1]
    rw [if_neg w1, if_neg w1]
    by_cases w2 : what = 2
    · rw [if_pos w2, if_pos w2]
    rw [if_neg w2, if_neg w2]
    by_cases w3 : what = 3
    · rw [if_pos w3, if_pos w3]
    rw [if_neg w3, if_neg w3]
    by_cases w4 : what = 4
    · rw [if_pos w4, if_pos w4]
    rw [if_neg w4, if_neg w4]
    by_cases w5 : what = 5
    · rw [if_pos w5, if_pos w5]
    rw [if_neg w5, if_neg w5]
    by_cases w6 : what = 6
    · rw [if_pos w6, if_pos w6]
    rw [if_neg w6, if_neg w6]
    rw [if_pos]
    have t : ∀ k, k ≤ 7 → what = nI k → ¬ k = 7 → False := fun k hk e hn => by
      rcases (show k = 0 ∨ k = 1 ∨ k = 2 ∨ k = 3 ∨ k = 4 ∨ k = 5 ∨ k = 6 by omega) with rfl | rfl | rfl | rfl | rfl | rfl | rfl
      · exact w0 e
      · exact w1 e
      · exact w2 e
      · exact w3 e
      · exact w4 e
      · exact w5 e
      · exact w6 e
    rcases Nat.decEq what.toNatClampNeg 7 with h | h
    · exact (t _ hx.2.2 hx.1 h).elim
    · exact hx.1.trans (by rw [h]; rfl)
theorem eq_pane {isp what gr go we dr sh ea : Int32} : m_pane isp what (s_in what 0 5) gr go we dr sh ea = s_pane isp what gr go we dr sh ea := by
  unfold m_pane s_pane
  by_cases hi : isp = 0
  · rw [if_pos hi, if_pos hi]
  rw [if_neg hi, if_neg hi]
  by_cases hw : s_in what 0 5 = 0
  · have n : ∀ v : Int32, s_in v 0 5 = 1 → ¬ what = v := fun v hv e => by rw [e, hv] at hw; exact absurd hw (by decide)
    rw [if_pos hw, if_neg (n 0 (by decide)), if_neg (n 1 (by decide)), if_neg (n 2 (by decide)), if_neg (n 3 (by decide)), if_neg (n 4 (by decide)), if_neg (n 5 (by decide))]
  · rw [if_neg hw]
    have hx := s_in_ix (a := 0) (b := 5) hw rfl rfl (by decide) (by decide)
    by_cases w0 : what = 0
    · rw [if_pos w0, if_pos w0]
    rw [if_neg w0, if_neg w0]
    by_cases w1 : what = 1
    · rw [if_pos w1, if_pos w1]
    rw [if_neg w1, if_neg w1]
    by_cases w2 : what = 2
    · rw [if_pos w2, if_pos w2]
    rw [if_neg w2, if_neg w2]
    by_cases w3 : what = 3
    · rw [if_pos w3, if_pos w3]
    rw [if_neg w3, if_neg w3]
    by_cases w4 : what = 4
    · rw [if_pos w4, if_pos w4]
    rw [if_neg w4, if_neg w4]
    rw [if_pos]
    have t : ∀ k, k ≤ 5 → what = nI k → ¬ k = 5 → False := fun k hk e hn => by
      rcases (show k = 0 ∨ k = 1 ∨ k = 2 ∨ k = 3 ∨ k = 4 by omega) with rfl | rfl | rfl | rfl | rfl
      · exact w0 e
      · exact w1 e
      · exact w2 e
      · exact w3 e
      · exact w4 e
    rcases Nat.decEq what.toNatClampNeg 5 with h | h
    · exact (t _ hx.2.2 hx.1 h).elim
    · exact hx.1.trans (by rw [h]; rfl)
theorem eq_frm {inf what a b c d : Int32} : m_frm inf (s_in what 0 3) what a b c d = s_frm inf what a b c d := by
  unfold m_frm s_frm
  by_cases hi : inf = 0
  · rw [if_pos hi, if_pos hi]
  rw [if_neg hi, if_neg hi]
  by_cases hw : s_in what 0 3 = 0
  · have n : ∀ v : Int32, s_in v 0 3 = 1 → ¬ what = v := fun v hv e => by rw [e, hv] at hw; exact absurd hw (by decide)
    rw [if_pos hw, if_neg (n 0 (by decide)), if_neg (n 1 (by decide)), if_neg (n 2 (by decide)), if_neg (n 3 (by decide))]
  · rw [if_neg hw]
    have hx := s_in_ix (a := 0) (b := 3) hw rfl rfl (by decide) (by decide)
    by_cases w0 : what = 0
    · rw [if_pos w0, if_pos w0]
    rw [if_neg w0, if_neg w0]
    by_cases w1 : what = 1
    · rw [if_pos w1, if_pos w1]
    rw [if_neg w1, if_neg w1]
    by_cases w2 : what = 2
    · rw [if_pos w2, if_pos w2]
    rw [if_neg w2, if_neg w2]
    rw [if_pos]
    have t : ∀ k, k ≤ 3 → what = nI k → ¬ k = 3 → False := fun k hk e hn => by
      rcases (show k = 0 ∨ k = 1 ∨ k = 2 by omega) with rfl | rfl | rfl
      · exact w0 e
      · exact w1 e
      · exact w2 e
    rcases Nat.decEq what.toNatClampNeg 3 with h | h
    · exact (t _ hx.2.2 hx.1 h).elim
    · exact hx.1.trans (by rw [h]; rfl)
theorem eq_brk {i what inw al a b c : Int32} {bn : Nat} (hb : bn < 2 ^ 31) : m_brk i what inw al a b c (nI bn) = s_brk i what inw al (-4) a b c (nI (min bn 60)) := by
  have key : ¬ i < 0 → (if nI bn ≤ i then (-4 : Int32) else if i < 60 then (if what = 0 then a else if what = 1 then b else c) else -4) = if i < nI (min bn 60) then (if what = 0 then a else if what = 1 then b else c) else -4 := by
    intro h0
    obtain ⟨j, hj, rfl⟩ := nI_of h0
    have e60 : (60 : Int32) = nI 60 := rfl
    rw [e60]
    have l1 : nI bn ≤ nI j ↔ bn ≤ j := nI_leI hb hj
    have l2 : nI j < nI 60 ↔ j < 60 := nI_ltI hj (by omega)
    have l3 : nI j < nI (min bn 60) ↔ j < min bn 60 := nI_ltI hj (by omega)
    by_cases h1 : nI bn ≤ nI j
    · have h3 : ¬ nI j < nI (min bn 60) := fun q => by have := l1.mp h1; have := l3.mp q; omega
      rw [if_pos h1, if_neg h3]
    · rw [if_neg h1]
      by_cases h2 : nI j < nI 60
      · have h3 : nI j < nI (min bn 60) := l3.mpr (by have := l2.mp h2; have : ¬ bn ≤ j := fun q => h1 (l1.mpr q); omega)
        rw [if_pos h2, if_pos h3]
      · have h3 : ¬ nI j < nI (min bn 60) := fun q => h2 (l2.mpr (by have := l3.mp q; omega))
        rw [if_neg h2, if_neg h3]
  unfold m_brk s_brk
  by_cases h0 : i < 0
  · simp only [if_pos h0]
  · simp only [if_neg h0, key h0]
theorem sumP_zero {S : Int32} {f : Nat → Int32} {h n : Nat} (hz : ∀ p, n ≤ p → p < 4 → f (4 * h + p) = 0) : ∀ k, n ≤ k → k ≤ 4 → s_sumP S f h k = s_sumP S f h n := by
  intro k
  induction k with
  | zero => intro h1 _; rw [show n = 0 by omega]
  | succ k ih =>
    intro h1 h2
    by_cases e : n = k + 1
    · rw [e]
    · show s_sumP S f h k + f (4 * h + k) = _
      rw [ih (by omega) (by omega), hz k (by omega) (by omega), Int32.add_zero]
theorem acc_eq {S b x : Int32} {f : Nat → Int32} {h : Nat} (e : b = x) (k : Nat) : m_acc S b x f h k = s_sumP S f h k := by
  induction k with
  | zero => rfl
  | succ k ih =>
    show m_acc S b x f h k + (if b = x then f (4 * h + k) else 0) = s_sumP S f h k + f (4 * h + k)
    rw [ih, if_pos e]
theorem acc_ne {S b x : Int32} {f : Nat → Int32} {h : Nat} (e : ¬ b = x) (k : Nat) : m_acc S b x f h k = S := by
  induction k with
  | zero => rfl
  | succ k ih =>
    show m_acc S b x f h k + (if b = x then f (4 * h + k) else 0) = S
    rw [ih, if_neg e, Int32.add_zero]
theorem farm_eq {fa f : Nat → Int32} {pn : Nat → Nat} {x : Int32} (h4 : ∀ h, pn h ≤ 4) : ∀ hk, (∀ h, h < hk → ∀ p, pn h ≤ p → p < 4 → f (4 * h + p) = 0) → m_ofF fa f x hk = s_farmS fa pn f x hk := by
  intro hk
  induction hk with
  | zero => intro _; rfl
  | succ h ih =>
    intro hz
    show m_acc (m_ofF fa f x h) (fa h) x f h 4 = if fa h = x then s_sumP (s_farmS fa pn f x h) f h (pn h) else s_farmS fa pn f x h
    rw [ih (fun k hk => hz k (by omega))]
    by_cases e : fa h = x
    · rw [if_pos e, acc_eq e, sumP_zero (hz h (by omega)) 4 (h4 h) (Nat.le_refl _)]
    · rw [if_neg e, acc_ne e]
theorem m_sum_upd (F : Nat → Int32) (v : Int32) {k N : Nat} (h : k < N) : m_sum (upd F k v) N = m_sum F N - F k + v := by
  induction N with
  | zero => omega
  | succ N ih =>
    show m_sum (upd F k v) N + upd F k v N = m_sum F N + F N - F k + v
    by_cases e : k = N
    · subst e
      have h1 : ∀ n, n ≤ k → m_sum (upd F k v) n = m_sum F n := by
        intro n
        induction n with
        | zero => intro _; rfl
        | succ n ih2 =>
          intro hn
          show m_sum (upd F k v) n + upd F k v n = m_sum F n + F n
          rw [ih2 (by omega), pk_un (by omega)]
      rw [h1 k (Nat.le_refl _), pk_us]
      grind
    · rw [ih (by omega), pk_un (by omega)]
      grind
def m_sumG (g : Nat → Int32) : Nat → Int32
  | 0 => 0
  | p + 1 => m_sumG g p + g p
theorem m_sum_rng (f : Nat → Int32) (g : Nat → Int32) (a : Nat) : ∀ n, a + n ≤ 24 → m_sum (s_rng a n f (fun j => f j + g (j - a))) 24 = m_sum f 24 + m_sumG g n := by
  intro n
  induction n with
  | zero =>
    intro _
    rw [← s_rng_0]
    show _ = m_sum f 24 + 0
    rw [Int32.add_zero]
  | succ n ih =>
    intro h
    rw [← s_rng_succ (x := f (a + n) + g n) (by rw [Nat.add_sub_cancel_left]), m_sum_upd _ _ (by omega), ih (by omega), s_rng_at]
    show _ = m_sum f 24 + (m_sumG g n + g n)
    grind
theorem sips_G (t m : Int32) (n : Nat) : m_sumG (fun p => s_min (s_own t m (nI p)) 3) n = s_sips t m n := by
  induction n with
  | zero => rfl
  | succ n ih =>
    show m_sumG _ n + s_min (s_own t m (nI n)) 3 = s_sips t m n + s_min (s_own t m (nI n)) 3
    rw [ih]
theorem s_run_du {nv ai gz : Int32} {wi qu sh : Nat → Int32} {pn : Nat → Nat} {x : PS} (h4 : ∀ h, pn h ≤ 4) (h0 : P_du x = m_sum (P_dr x) 24) : ∀ i, i ≤ 6 → P_du (s_run nv ai gz wi qu sh pn i x) = m_sum (P_dr (s_run nv ai gz wi qu sh pn i x)) 24 := by
  intro i
  induction i with
  | zero => intro _; exact h0
  | succ i ih =>
    intro hi
    have q := ih (by omega)
    have e : s_run nv ai gz wi qu sh pn (i + 1) x = s_hatT ai gz sh pn i (s_run nv ai gz wi qu sh pn i x) (s_take nv (nI i) (P_w (s_run nv ai gz wi qu sh pn i x)) (qu i) (wi i) (P_ca (s_run nv ai gz wi qu sh pn i x) i)) := rfl
    rw [e]
    generalize s_take nv (nI i) (P_w (s_run nv ai gz wi qu sh pn i x)) (qu i) (wi i) (P_ca (s_run nv ai gz wi qu sh pn i x) i) = t
    generalize s_run nv ai gz wi qu sh pn i x = y at q
    show P_du y + s_sips t (nI (pn i)) (pn i) = m_sum (s_rng (4 * i) (pn i) (P_dr y) (s_drF i t (nI (pn i)) (P_dr y))) 24
    have := h4 i
    rw [q, ← sips_G]
    exact (m_sum_rng (P_dr y) (fun p => s_min (s_own t (nI (pn i)) (nI p)) 3) (4 * i) (pn i) (by omega)).symm
theorem s_run_out {nv ai gz : Int32} {wi qu sh : Nat → Int32} {pn : Nat → Nat} {x : PS} {j : Nat} : ∀ i, (∀ h, h < i → ¬ (4 * h ≤ j ∧ j < 4 * h + pn h)) → P_gr (s_run nv ai gz wi qu sh pn i x) j = P_gr x j ∧ P_we (s_run nv ai gz wi qu sh pn i x) j = P_we x j ∧ P_ea (s_run nv ai gz wi qu sh pn i x) j = P_ea x j := by
  intro i
  induction i with
  | zero => intro _; exact ⟨rfl, rfl, rfl⟩
  | succ i ih =>
    intro h
    obtain ⟨h1, h2, h3⟩ := ih (fun k hk => h k (by omega))
    have hn := h i (by omega)
    refine ⟨?_, ?_, ?_⟩
    · rw [← h1]; show s_rng _ _ _ _ j = _; unfold s_rng; rw [if_neg hn]
    · rw [← h2]; show s_rng _ _ _ _ j = _; unfold s_rng; rw [if_neg hn]
    · rw [← h3]; show s_rng _ _ _ _ j = _; unfold s_rng; rw [if_neg hn]
/-- beyond the panes nothing has grown -/
def zB (hk : Nat) (pn : Nat → Nat) (cs : Nat → CS) : Prop := ∀ s j, (∀ h, h < hk → ¬ (4 * h ≤ j ∧ j < 4 * h + pn h)) → C_gr (cs s) j = 0 ∧ C_we (cs s) j = 0 ∧ C_ea (cs s) j = 0
/-- what every run keeps -/
def Inv (fn pn : Nat → Nat) (qu sh : Nat → Int32) (hk ho de bn : Nat) (fl ai : Int32) (cs : Nat → CS) : Prop :=
  hk ≤ 6 ∧ (∀ h, h < hk → 1 ≤ pn h ∧ pn h ≤ 4) ∧ (∀ h, pn h ≤ 4) ∧ (∀ h, h < hk → fn h < 4) ∧ de ≤ 90 ∧ ho ≤ 2400 ∧ bn ≤ 7 * ho ∧ nB 1000 fl ∧ (∀ h, h < hk → nB 4 (qu h)) ∧ (∀ j, nB 50 (sh j)) ∧ aiB ai ∧ (∀ s j, nB 5000 (C_gr (cs s) j)) ∧ C_du (cs 0) = m_sum (C_dr (cs 0)) 24 ∧ zB hk pn cs
theorem zB.far {hk : Nat} {pn : Nat → Nat} {cs : Nat → CS} (h4 : ∀ h, pn h ≤ 4) (hz : zB hk pn cs) (s : Nat) : ∀ h, h < hk → ∀ p, pn h ≤ p → p < 4 → C_gr (cs s) (4 * h + p) = 0 ∧ C_we (cs s) (4 * h + p) = 0 ∧ C_ea (cs s) (4 * h + p) = 0 := fun h _ p hp hp4 =>
  hz s (4 * h + p) (fun k _ hc => by have := h4 k; have : k = h := by omega
                                     subst this; omega)
theorem s_sel_ind {α : Type} {a d : Int32} {x y z : α} {P : α → Prop} (h1 : P x) (h2 : P y) (h3 : ¬ a = 0 → d = 0 → P z) : P (s_sel a d x y z) := by
  unfold s_sel; split
  · exact h1
  · split
    · exact h3 (by assumption) (by assumption)
    · exact h2
theorem s_sel2_ind {α : Type} {a b d : Int32} {x y z : α} {P : α → Prop} (h1 : P x) (h2 : P y) (h3 : ¬ a = 0 → ¬ b = 0 → d = 0 → P z) : P (s_sel2 a b d x y z) := by
  unfold s_sel2; split
  · exact h1
  · split
    · exact h1
    · split
      · exact h3 (by assumption) (by assumption) (by assumption)
      · exact h2
theorem s_selR_ind {α : Type} {a b c f t d : Int32} {x y z : α} {P : α → Prop} (h1 : P x) (h2 : P y) (h3 : d = 0 → P z) : P (s_selR a b c f t d x y z) := by
  unfold s_selR; split
  · exact h1
  · split
    · exact h1
    · split
      · exact h1
      · split
        · split
          · exact h3 (by assumption)
          · exact h2
        · exact h1
theorem s_fu0 {de : Nat} (h : s_fu de = 0) : de < 90 := by
  unfold s_fu at h
  split at h
  · assumption
  · exact absurd h (by decide)
theorem s_in_nB {x : Int32} {b : Nat} {hi : Int32} (h : ¬ s_in x 0 hi = 0) (hh : hi = nI b) (hb : b < 2 ^ 31) : nB b x := by
  obtain ⟨e, -, h2⟩ := s_in_ix (a := 0) (b := b) h rfl hh hb (by decide)
  exact ⟨_, h2, e⟩
theorem s_in_aiB {x : Int32} (h : ¬ s_in x (-20) 30 = 0) : aiB x := by
  unfold s_in at h
  split at h
  · exact absurd rfl h
  · rename_i h0
    split at h
    · exact absurd rfl h
    · rename_i h1
      rw [Int32.lt_iff_toInt_lt] at h0 h1
      have e1 : (-20 : Int32).toInt = -20 := rfl
      have e2 : (30 : Int32).toInt = 30 := rfl
      exact ⟨by omega, by omega⟩
theorem nB_upd {f : Nat → Int32} {n k : Nat} {v : Int32} (hf : ∀ j, nB n (f j)) (hv : nB n v) : ∀ j, nB n (upd f k v j) := fun j => by
  unfold upd; split
  · exact hv
  · exact hf j

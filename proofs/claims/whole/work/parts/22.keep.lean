/-! ===== each call keeps what every run keeps ===== -/
section INV
variable {fn pn : Nat → Nat} {wi qu sh : Nat → Int32} {hk ho de bn : Nat} {fl ai rn rf rt : Int32} {cs : Nat → CS}
theorem inv_flow (h : Inv fn pn qu sh hk ho de bn fl ai cs) (x : Int32) : Inv fn pn qu sh hk ho (s_sel (s_in x 0 1000) (s_fu de) de de (de + 1)) bn (s_sel (s_in x 0 1000) (s_fu de) fl fl x) ai cs := by
  obtain ⟨h1, h2, h3, h4, h5, h6, h7, h8, h9, h10, h11, h12, h13, h14⟩ := h
  exact ⟨h1, h2, h3, h4, s_sel_ind (P := fun de => de ≤ 90) h5 h5 (fun _ hd => s_fu0 hd), h6, h7, s_sel_ind (P := nB 1000) h8 h8 (fun ha _ => s_in_nB ha rfl (by decide)), h9, h10, h11, h12, h13, h14⟩
theorem inv_air (h : Inv fn pn qu sh hk ho de bn fl ai cs) (x : Int32) : Inv fn pn qu sh hk ho (s_sel (s_in x (-20) 30) (s_fu de) de de (de + 1)) bn fl (s_sel (s_in x (-20) 30) (s_fu de) ai ai x) cs := by
  obtain ⟨h1, h2, h3, h4, h5, h6, h7, h8, h9, h10, h11, h12, h13, h14⟩ := h
  exact ⟨h1, h2, h3, h4, s_sel_ind (P := fun de => de ≤ 90) h5 h5 (fun _ hd => s_fu0 hd), h6, h7, h8, h9, h10, s_sel_ind (P := aiB) h11 h11 (fun ha _ => s_in_aiB ha), h12, h13, h14⟩
theorem inv_open (h : Inv fn pn qu sh hk ho de bn fl ai cs) (x y : Int32) : Inv fn pn (s_sel2 (s_ish x (nI hk)) (s_in y 0 4) (s_fu de) qu qu (upd qu x.toNatClampNeg y)) sh hk ho (s_sel2 (s_ish x (nI hk)) (s_in y 0 4) (s_fu de) de de (de + 1)) bn fl ai cs := by
  obtain ⟨h1, h2, h3, h4, h5, h6, h7, h8, h9, h10, h11, h12, h13, h14⟩ := h
  refine ⟨h1, h2, h3, h4, s_sel2_ind (P := fun de => de ≤ 90) h5 h5 (fun _ _ hd => s_fu0 hd), h6, h7, h8, ?_, h10, h11, h12, h13, h14⟩
  refine s_sel2_ind (P := fun q : Nat → Int32 => ∀ h, h < hk → nB 4 (q h)) h9 h9 (fun _ hb _ h hh => ?_)
  unfold upd; split
  · exact s_in_nB hb rfl (by decide)
  · exact h9 h hh
theorem inv_sheep {a : Int32} {k : Nat} (h : Inv fn pn qu sh hk ho de bn fl ai cs) (z : Int32) : Inv fn pn qu (s_sel2 a (s_in z 0 50) (s_fu de) sh sh (upd sh k z)) hk ho (s_sel2 a (s_in z 0 50) (s_fu de) de de (de + 1)) bn fl ai cs := by
  obtain ⟨h1, h2, h3, h4, h5, h6, h7, h8, h9, h10, h11, h12, h13, h14⟩ := h
  refine ⟨h1, h2, h3, h4, s_sel2_ind (P := fun de => de ≤ 90) h5 h5 (fun _ _ hd => s_fu0 hd), h6, h7, h8, h9, ?_, h11, h12, h13, h14⟩
  exact s_sel2_ind (P := fun q : Nat → Int32 => ∀ j, nB 50 (q j)) h10 h10 (fun _ hb _ => nB_upd h10 (s_in_nB hb rfl (by decide)))
theorem inv_right {a b c f t : Int32} (h : Inv fn pn qu sh hk ho de bn fl ai cs) : Inv fn pn qu sh hk ho (s_selR a b c f t (s_fu de) de de (de + 1)) bn fl ai cs := by
  obtain ⟨h1, h2, h3, h4, h5, h6, h7, h8, h9, h10, h11, h12, h13, h14⟩ := h
  exact ⟨h1, h2, h3, h4, s_selR_ind (P := fun de => de ≤ 90) h5 h5 (fun hd => s_fu0 hd), h6, h7, h8, h9, h10, h11, h12, h13, h14⟩
theorem inv_dig (h : Inv fn pn qu sh hk ho de bn fl ai cs) (hd : s_fu de = 0) (k : Nat) : Inv fn pn qu sh hk ho (de + 1) bn fl ai (s_dig k cs) := by
  obtain ⟨h1, h2, h3, h4, h5, h6, h7, h8, h9, h10, h11, h12, h13, h14⟩ := h
  exact ⟨h1, h2, h3, h4, s_fu0 hd, h6, h7, h8, h9, h10, h11, h12, h13, h14⟩
theorem inv_hatch (h : Inv fn pn qu sh hk ho de bn fl ai cs) (hq : ∀ h, nB 4 (qu h)) (x y z : Int32) : Inv (s_selH (s_in x 0 3) (s_in y 1 200) (s_in z 1 4) hk (s_fu de) fn fn (updN fn hk x.toNatClampNeg)) (s_selH (s_in x 0 3) (s_in y 1 200) (s_in z 1 4) hk (s_fu de) pn pn (updN pn hk z.toNatClampNeg)) qu sh (s_selH (s_in x 0 3) (s_in y 1 200) (s_in z 1 4) hk (s_fu de) hk hk (hk + 1)) ho (s_selH (s_in x 0 3) (s_in y 1 200) (s_in z 1 4) hk (s_fu de) de de (de + 1)) bn fl ai cs := by
  unfold s_selH
  by_cases ha : s_in x 0 3 = 0
  · simp only [if_pos ha]; exact h
  simp only [if_neg ha]
  by_cases hb : s_in y 1 200 = 0
  · simp only [if_pos hb]; exact h
  simp only [if_neg hb]
  by_cases hc : s_in z 1 4 = 0
  · simp only [if_pos hc]; exact h
  simp only [if_neg hc]
  by_cases h6 : 6 ≤ hk
  · simp only [if_pos h6]; exact h
  simp only [if_neg h6]
  by_cases hd : s_fu de = 0
  · simp only [if_pos hd]
    obtain ⟨h1, h2, h3, h4, h5, h6, h7, h8, h9, h10, h11, h12, h13, h14⟩ := h
    obtain ⟨-, -, x3⟩ := s_in_ix (a := 0) (b := 3) ha rfl rfl (by decide) (by decide)
    obtain ⟨-, z1, z4⟩ := s_in_ix (a := 1) (b := 4) hc rfl rfl (by decide) (by decide)
    refine ⟨by omega, fun h hh => ?_, fun h => ?_, fun h hh => ?_, s_fu0 hd, h6, h7, h8, fun h _ => hq h, h10, h11, h12, h13, fun s j hj => h14 s j (fun k hk hc => ?_)⟩
    · unfold updN; split
      · exact ⟨z1, z4⟩
      · exact h2 h (by omega)
    · unfold updN; split
      · exact z4
      · exact h3 h
    · unfold updN; split
      · omega
      · exact h4 h (by omega)
    · have := hj k (by omega)
      unfold updN at this
      rw [if_neg (by omega)] at this
      exact this hc
  · simp only [if_neg hd]; exact h
theorem qu_open (h4 : ∀ h, nB 4 (qu h)) (x y : Int32) : ∀ h, nB 4 ((s_sel2 (s_ish x (nI hk)) (s_in y 0 4) (s_fu de) qu qu (upd qu x.toNatClampNeg y)) h) :=
  s_sel2_ind (P := fun q : Nat → Int32 => ∀ h, nB 4 (q h)) h4 h4 (fun _ hb _ => nB_upd h4 (s_in_nB hb rfl (by decide)))
theorem inv_adv {Y : HS} (h : Inv fn pn qu sh hk (H_ho Y) de (H_bn Y) fl ai (H_cs Y)) (h0 : H_ho Y + 1 ≤ 2400) : Inv fn pn qu sh hk (H_ho (s_adv fl ai rn rf rt wi qu sh fn pn hk Y)) de (H_bn (s_adv fl ai rn rf rt wi qu sh fn pn hk Y)) fl ai (H_cs (s_adv fl ai rn rf rt wi qu sh fn pn hk Y)) := by
  obtain ⟨h1, h2, h3, h4, h5, h6, h7, h8, h9, h10, h11, h12, h13, h14⟩ := h
  refine ⟨h1, h2, h3, h4, h5, h0, ?_, h8, h9, h10, h11, s_adv_gB h11 h9 h2 h10 h8 h12, ?_, fun s j hj => ?_⟩
  · have := s_adv_bn (fl := fl) (ai := ai) (rn := rn) (rf := rf) (rt := rt) (wi := wi) (qu := qu) (sh := sh) (fn := fn) (pn := pn) (hk := hk) Y
    show _ ≤ 7 * (H_ho Y + 1)
    omega
  · exact s_run_du (nv := nvF 0) (ai := ai) (gz := s_gz (nI (H_ho Y))) (wi := wi) (qu := qu) (sh := sh) (x := s_pin (H_cs Y 0) fl) h3 h13 hk h1
  · obtain ⟨e1, e2, e3⟩ := s_run_out (nv := nvF s) (ai := ai) (gz := s_gz (nI (H_ho Y))) (wi := wi) (qu := qu) (sh := sh) (pn := pn) (x := s_pin (H_cs Y s) fl) (j := j) hk hj
    obtain ⟨z1, z2, z3⟩ := h14 s j hj
    exact ⟨e1.trans z1, e2.trans z2, e3.trans z3⟩
theorem inv_advs {Y : HS} (h : Inv fn pn qu sh hk (H_ho Y) de (H_bn Y) fl ai (H_cs Y)) : ∀ i, H_ho Y + i ≤ 2400 → Inv fn pn qu sh hk (H_ho (s_advs fl ai rn rf rt wi qu sh fn pn hk i Y)) de (H_bn (s_advs fl ai rn rf rt wi qu sh fn pn hk i Y)) fl ai (H_cs (s_advs fl ai rn rf rt wi qu sh fn pn hk i Y)) := by
  intro i
  induction i with
  | zero => intro _; exact h
  | succ i ih =>
    intro hi
    exact inv_adv (ih (by omega)) (by rw [s_advs_ho]; omega)
theorem inv_hours {Y : HS} (h : Inv fn pn qu sh hk (H_ho Y) de (H_bn Y) fl ai (H_cs Y)) (a : Int32) (n : Nat) : Inv fn pn qu sh hk (H_ho (s_selO a (H_ho Y + n) Y Y (s_advs fl ai rn rf rt wi qu sh fn pn hk n Y))) de (H_bn (s_selO a (H_ho Y + n) Y Y (s_advs fl ai rn rf rt wi qu sh fn pn hk n Y))) fl ai (H_cs (s_selO a (H_ho Y + n) Y Y (s_advs fl ai rn rf rt wi qu sh fn pn hk n Y))) := by
  unfold s_selO
  split
  · exact h
  · split
    · exact inv_advs h n (by assumption)
    · exact h
end INV

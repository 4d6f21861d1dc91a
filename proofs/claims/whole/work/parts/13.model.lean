/-! ===== the reference: its arrays are flat views of slices ===== -/
def fl6 (F : Nat → Nat → Int32) : Nat → Int32 := fun k => if k < 42 then F (k / 6) (k % 6) else 0
def fl24 (F : Nat → Nat → Int32) : Nat → Int32 := fun k => if k < 168 then F (k / 24) (k % 24) else 0
def fl7 (f : Nat → Int32) : Nat → Int32 := fun k => if k < 7 then f k else 0
def sl {α : Type} (F : Nat → α) (s : Nat) (g : α) : Nat → α := fun s' => if s' = s then g else F s'
theorem sl_at {α : Type} (F : Nat → α) (s : Nat) (g : α) : sl F s g s = g := by unfold sl; rw [if_pos rfl]
theorem sl_ne {α : Type} (F : Nat → α) {s t : Nat} (g : α) (h : ¬ t = s) : sl F s g t = F t := by unfold sl; rw [if_neg h]
theorem fl6_at (F : Nat → Nat → Int32) {s h : Nat} (hs : s < 7) (hh : h < 6) : fl6 F (6 * s + h) = F s h := by
  unfold fl6
  rw [if_pos (by omega), show (6 * s + h) / 6 = s by omega, show (6 * s + h) % 6 = h by omega]
theorem fl6_at0 (F : Nat → Nat → Int32) {h : Nat} (hh : h < 6) : fl6 F h = F 0 h := by
  have := fl6_at F (s := 0) (by omega) hh
  rwa [Nat.mul_zero, Nat.zero_add] at this
theorem fl24_at (F : Nat → Nat → Int32) {s h : Nat} (hs : s < 7) (hh : h < 24) : fl24 F (24 * s + h) = F s h := by
  unfold fl24
  rw [if_pos (by omega), show (24 * s + h) / 24 = s by omega, show (24 * s + h) % 24 = h by omega]
theorem fl24_at0 (F : Nat → Nat → Int32) {h : Nat} (hh : h < 24) : fl24 F h = F 0 h := by
  have := fl24_at F (s := 0) (by omega) hh
  rwa [Nat.mul_zero, Nat.zero_add] at this
theorem fl7_at (f : Nat → Int32) {s : Nat} (hs : s < 7) : fl7 f s = f s := by unfold fl7; rw [if_pos hs]
theorem fl6_ext {F F' : Nat → Nat → Int32} (h : ∀ s, s < 7 → ∀ j, j < 6 → F s j = F' s j) : fl6 F = fl6 F' := by
  funext k; unfold fl6
  split
  · exact h _ (by omega) _ (by omega)
  · rfl
theorem fl24_ext {F F' : Nat → Nat → Int32} (h : ∀ s, s < 7 → ∀ j, j < 24 → F s j = F' s j) : fl24 F = fl24 F' := by
  funext k; unfold fl24
  split
  · exact h _ (by omega) _ (by omega)
  · rfl
theorem fl7_ext {f f' : Nat → Int32} (h : ∀ s, s < 7 → f s = f' s) : fl7 f = fl7 f' := by
  funext k; unfold fl7
  split
  · exact h _ (by omega)
  · rfl
theorem fl6_upd (F : Nat → Nat → Int32) {s h : Nat} (hs : s < 7) (hh : h < 6) (v : Int32) : upd (fl6 F) (6 * s + h) v = fl6 (sl F s (upd (F s) h v)) := by
  funext k
  unfold upd fl6 sl
  by_cases hk : k = 6 * s + h
  · subst hk
    rw [if_pos rfl, if_pos (by omega), show (6 * s + h) / 6 = s by omega, show (6 * s + h) % 6 = h by omega, if_pos rfl]
    simp
  · rw [if_neg hk]
    split
    · split
      · rename_i h1 h2
        rw [h2]
        simp only
        rw [if_neg (by omega)]
      · rfl
    · rfl
theorem fl24_upd (F : Nat → Nat → Int32) {s h : Nat} (hs : s < 7) (hh : h < 24) (v : Int32) : upd (fl24 F) (24 * s + h) v = fl24 (sl F s (upd (F s) h v)) := by
  funext k
  unfold upd fl24 sl
  by_cases hk : k = 24 * s + h
  · subst hk
    rw [if_pos rfl, if_pos (by omega), show (24 * s + h) / 24 = s by omega, show (24 * s + h) % 24 = h by omega, if_pos rfl]
    simp
  · rw [if_neg hk]
    split
    · split
      · rename_i h1 h2
        rw [h2]
        simp only
        rw [if_neg (by omega)]
      · rfl
    · rfl
theorem fl7_upd (f : Nat → Int32) {s : Nat} (hs : s < 7) (v : Int32) : upd (fl7 f) s v = fl7 (upd f s v) := by
  funext k
  unfold upd fl7
  by_cases hk : k = s
  · subst hk; rw [if_pos rfl, if_pos hs]; simp
  · rw [if_neg hk]; split <;> simp [hk]
theorem sl_sl {α : Type} (F : Nat → α) (s : Nat) (g g' : α) : sl (sl F s g) s g' = sl F s g' := by
  funext t; unfold sl; split <;> rfl
theorem sl_id {α : Type} (F : Nat → α) (s : Nat) : sl F s (F s) = F := by
  funext t; unfold sl; split
  · rename_i h; rw [h]
  · rfl
theorem m_ix (a s h : Nat) {x : Int32} (hx : x = nI h) : nI a * nI s + x = nI (a * s + h) := by rw [hx, pk_mul, nI_add]
theorem m_dig (F : Nat → Nat → Int32) {h : Nat} (hh : h < 6) : upd (upd (upd (upd (upd (upd (upd (fl6 F) (6 * 0 + h) 0) (6 * 1 + h) 0) (6 * 2 + h) 0) (6 * 3 + h) 0) (6 * 4 + h) 0) (6 * 5 + h) 0) (6 * 6 + h) 0 = fl6 (fun s => upd (F s) h 0) := by
  rw [fl6_upd _ (by omega) hh, fl6_upd _ (by omega) hh, fl6_upd _ (by omega) hh, fl6_upd _ (by omega) hh, fl6_upd _ (by omega) hh, fl6_upd _ (by omega) hh, fl6_upd _ (by omega) hh]
  refine fl6_ext fun s hs j hj => ?_
  rcases (show s = 0 ∨ s = 1 ∨ s = 2 ∨ s = 3 ∨ s = 4 ∨ s = 5 ∨ s = 6 by omega) with rfl | rfl | rfl | rfl | rfl | rfl | rfl <;> rfl
theorem s_in_ish {x : Int32} {k : Nat} (hk : k ≤ 6) : s_in x 0 (nI k - 1) = s_ish x (nI k) := by
  have e : (nI k - 1).toInt = (k : Int) - 1 := by
    have := pk_sub_toInt (a := k) (b := 1) (by omega) (by omega)
    exact this
  unfold s_in s_ish
  by_cases h : x < 0
  · rw [if_pos h, if_pos h]
  · rw [if_neg h, if_neg h]
    have h1 : nI k - 1 < x ↔ nI k ≤ x := by
      rw [Int32.lt_iff_toInt_lt, Int32.le_iff_toInt_le, e, nI_toInt (by omega)]
      omega
    by_cases h2 : nI k ≤ x
    · rw [if_pos h2, if_pos (h1.mpr h2)]
    · rw [if_neg h2, if_neg (fun q => h2 (h1.mp q))]
theorem s_ish_nar (a b : Int32) : narrow .boolean (.int (s_ish a b)) = .int (s_ish a b) := by
  unfold s_ish; split
  · rfl
  · split <;> rfl
theorem s_isp_in {x y : Int32} {k n : Nat} (hn : n ≤ 4) (h5 : ¬ s_ish x (nI k) = 0) : s_isp x y (nI k) (nI n) = s_in y 0 (nI n - 1) := by
  rw [s_in_ish (by omega)]
  unfold s_isp s_ish
  unfold s_ish at h5
  rw [if_neg h5]
def m_told (ish what inw fa wi pa qu ca mo tk : Int32) : Int32 := if ish = 0 then -1 else if inw = 0 then -1 else if what = 0 then fa else if what = 1 then wi else if what = 2 then pa else if what = 3 then qu else if what = 4 then ca / 100 else if what = 5 then ca else if what = 6 then mo else tk
def m_pane (isp what inw gr go we dr sh ea : Int32) : Int32 := if isp = 0 then -1 else if inw = 0 then -1 else if what = 0 then gr else if what = 1 then go else if what = 2 then we else if what = 3 then dr else if what = 4 then sh else ea
def m_sum (f : Nat → Int32) : Nat → Int32
  | 0 => 0
  | k + 1 => m_sum f k + f k
def m_brk (i what inw al a b c bn : Int32) : Int32 := if i = -1 then (if what = 0 then al else if i < 0 then -1 else if inw = 0 then -1 else if bn ≤ i then -4 else if i < 60 then (if what = 0 then a else if what = 1 then b else c) else -4) else if i < 0 then -1 else if inw = 0 then -1 else if bn ≤ i then -4 else if i < 60 then (if what = 0 then a else if what = 1 then b else c) else -4
def m_frm (inf inw what a b c d : Int32) : Int32 := if inf = 0 then -1 else if inw = 0 then -1 else if what = 0 then a else if what = 1 then b else if what = 2 then c else d
def m_acc (S : Int32) (b : Int32) (x : Int32) (f : Nat → Int32) (h : Nat) : Nat → Int32
  | 0 => S
  | p + 1 => m_acc S b x f h p + (if b = x then f (4 * h + p) else 0)
def m_ofF (fa f : Nat → Int32) (x : Int32) : Nat → Int32
  | 0 => 0
  | h + 1 => m_acc (m_ofF fa f x h) (fa h) x f h 4

set_option maxRecDepth 100000 in
set_option maxHeartbeats 4000000 in
theorem c_X4_in (l : Launch) (G : v_Cfg) (n : Int32) (lo : Int32) (hi : Int32)  : RdI l G yX4_in cX4_in 3 (some .boolean) 0 [.int n, .int lo, .int hi] [] (s_in n lo hi) := by
  refine RdI.of (own := RX4) (by decide) rfl (Nat.le_of_ble_eq_true rfl) (fun p e s m below meth c => ?_)
  refine v_iload_n dX4_in_0 rfl 0 rfl ?_
  refine v_iload_n dX4_in_1 rfl 1 rfl ?_
  refine v_icmp_lt (tgt := 14) dX4_in_2 (by decide) (fun h2 => ?_) (fun h2 => ?_)
  · skip
    refine v_iconst (v := 0) dX4_in_14 (by decide) ?_
    exact v_zretR dX4_in_15 (by simp only [s_in, if_pos h2] <;> rfl) rfl
  · skip
    refine v_iload_n dX4_in_5 rfl 0 rfl ?_
    refine v_iload_n dX4_in_6 rfl 2 rfl ?_
    refine v_icmp_gt (tgt := 14) dX4_in_7 (by decide) (fun h7 => ?_) (fun h7 => ?_)
    · skip
      refine v_iconst (v := 0) dX4_in_14 (by decide) ?_
      exact v_zretR dX4_in_15 (by simp only [s_in, if_neg h2, if_pos h7] <;> rfl) rfl
    · skip
      refine v_iconst (v := 1) dX4_in_10 (by decide) ?_
      refine v_goto (tgt := 15) dX4_in_11 (by decide) ?_
      exact v_zretR dX4_in_15 (by simp only [s_in, if_neg h2, if_neg h7] <;> rfl) rfl

set_option maxRecDepth 100000 in
set_option maxHeartbeats 4000000 in
theorem c_X4_isHatch (l : Launch) (G : v_Cfg) (m0 : Nat) (md : Nat → Nat) (hk : Nat) (ho : Nat) (de : Nat) (fl : Int32) (ai : Int32) (rn : Int32) (rf : Int32) (rt : Int32) (bu : Int32) (bn : Nat) (x : Int32) (hk6 : hk ≤ 6) : RdI l G yX4_isHatch cX4_isHatch 2 (some .boolean) 1 [.ref m0, .int x] [(m0, .inr (4, [.int (nI hk), .int (nI ho), .int (nI de), .int fl, .int ai, .int rn, .int rf, .int rt, .ref (md 8), .ref (md 9), .ref (md 10), .ref (md 11), .ref (md 12), .ref (md 13), .ref (md 14), .ref (md 15), .ref (md 16), .ref (md 17), .ref (md 18), .ref (md 19), .ref (md 20), .ref (md 21), .ref (md 22), .int bu, .int (nI bn), .ref (md 25), .ref (md 26), .ref (md 27), .ref (md 28)]))] (s_ish x (nI hk)) := by
  refine RdI.of (own := RX4) (by decide) rfl (Nat.le_of_ble_eq_true rfl) (fun p e s m below meth c => ?_)
  refine v_iload_n dX4_isHatch_0 rfl 1 rfl ?_
  refine v_iconst (v := 0) dX4_isHatch_1 (by decide) ?_
  refine v_aload_n dX4_isHatch_2 rfl 0 rfl ?_
  refine v_get fX4_74 dX4_isHatch_3 0 rfl rfl ?_
  refine v_iconst (v := 1) dX4_isHatch_6 (by decide) ?_
  refine v_isub dX4_isHatch_7 ?_
  refine v_sRd (As := [.int x, .int 0, .int ((nI hk) - 1)]) (rest := []) (c_X4_in l G x 0 ((nI hk) - 1) ) YX4_in mX4_77 dX4_isHatch_8 [] rfl rfl rfl (Nat.le_of_ble_eq_true rfl) (by decide) (by decide) ?_
  refine v_eqi (s_ish x (nI hk)) (s_in_ish hk6) ?_
  exact v_zretR dX4_isHatch_11 rfl (s_ish_nar _ _)

set_option maxRecDepth 100000 in
set_option maxHeartbeats 4000000 in
theorem c_X4_isFull (l : Launch) (G : v_Cfg) (m0 : Nat) (md : Nat → Nat) (hk : Nat) (ho : Nat) (de : Nat) (fl : Int32) (ai : Int32) (rn : Int32) (rf : Int32) (rt : Int32) (bu : Int32) (bn : Nat) (hde : de ≤ 90) : RdI l G yX4_isFull cX4_isFull 1 (some .boolean) 0 [.ref m0] [(m0, .inr (4, [.int (nI hk), .int (nI ho), .int (nI de), .int fl, .int ai, .int rn, .int rf, .int rt, .ref (md 8), .ref (md 9), .ref (md 10), .ref (md 11), .ref (md 12), .ref (md 13), .ref (md 14), .ref (md 15), .ref (md 16), .ref (md 17), .ref (md 18), .ref (md 19), .ref (md 20), .ref (md 21), .ref (md 22), .int bu, .int (nI bn), .ref (md 25), .ref (md 26), .ref (md 27), .ref (md 28)]))] (s_fu de) := by
  refine RdI.of (own := RX4) (by decide) rfl (Nat.le_of_ble_eq_true rfl) (fun p e s m below meth c => ?_)
  refine v_aload_n dX4_isFull_0 rfl 0 rfl ?_
  refine v_get fX4_81 dX4_isFull_1 0 rfl rfl ?_
  refine v_bipush (v := nI 90) dX4_isFull_4 (by decide) ?_
  by_cases n6 : de < 90
  · refine v_icmp_ne (tgt := 13) dX4_isFull_6 (by decide) (fun h6 => ?_) (fun h6 => absurd h6 (fun q => absurd ((nI_eq (by omega) (by omega)).mp q) (by omega)))
    refine v_iconst (v := 0) dX4_isFull_13 (by decide) ?_
    exact v_zretR dX4_isFull_14 (by simp only [s_fu, if_pos n6] <;> rfl) rfl
  · refine v_icmp_ne (tgt := 13) dX4_isFull_6 (by decide) (fun h6 => absurd ((nI_eq (by omega) (by omega)).mpr (by omega)) h6) (fun h6 => ?_)
    refine v_iconst (v := 1) dX4_isFull_9 (by decide) ?_
    refine v_goto (tgt := 14) dX4_isFull_10 (by decide) ?_
    exact v_zretR dX4_isFull_14 (by simp only [s_fu, if_neg n6] <;> rfl) rfl

theorem s_isp_1 {x y a b : Int32} (h : ¬ s_isp x y a b = 0) : s_isp x y a b = 1 := by
  unfold s_isp at h ⊢
  split
  · rename_i q; rw [if_pos q] at h; exact absurd rfl h
  · rename_i q; rw [if_neg q] at h
    split
    · rename_i q2; rw [if_pos q2] at h; exact absurd rfl h
    · rename_i q2; rw [if_neg q2] at h
      split
      · rename_i q3; rw [if_pos q3] at h; exact absurd rfl h
      · rfl
set_option maxRecDepth 100000 in
set_option maxHeartbeats 4000000 in
theorem c_X4_isPane (l : Launch) (G : v_Cfg) (m0 : Nat) (md : Nat → Nat) (hk : Nat) (ho : Nat) (de : Nat) (fl : Int32) (ai : Int32) (rn : Int32) (rf : Int32) (rt : Int32) (bu : Int32) (bn : Nat) (pn : Nat → Nat) (x : Int32) (y : Int32) (hk6 : hk ≤ 6) (hpn4 : ∀ h, pn h ≤ 4) : RdI l G yX4_isPane cX4_isPane 3 (some .boolean) 2 [.ref m0, .int x, .int y] [(m0, .inr (4, [.int (nI hk), .int (nI ho), .int (nI de), .int fl, .int ai, .int rn, .int rf, .int rt, .ref (md 8), .ref (md 9), .ref (md 10), .ref (md 11), .ref (md 12), .ref (md 13), .ref (md 14), .ref (md 15), .ref (md 16), .ref (md 17), .ref (md 18), .ref (md 19), .ref (md 20), .ref (md 21), .ref (md 22), .int bu, .int (nI bn), .ref (md 25), .ref (md 26), .ref (md 27), .ref (md 28)])), (md 10, .inl (G.2.1, 6, .inl (pN pn)))] (s_isp x y (nI hk) (pN pn x.toNatClampNeg)) := by
  refine RdI.of (own := RX4) (by decide) rfl (Nat.le_of_ble_eq_true rfl) (fun p e s m below meth c => ?_)
  refine v_aload_n dX4_isPane_0 rfl 0 rfl ?_
  refine v_iload_n dX4_isPane_1 rfl 1 rfl ?_
  refine v_vRd (As := [.int x]) (rest := []) (c_X4_isHatch l G m0 md hk ho de fl ai rn rf rt bu bn x hk6) YX4_isHatch mX4_88 dX4_isPane_2 ciX4 0 rfl [0] rfl rfl rfl (Nat.le_of_ble_eq_true rfl) (by decide) (by decide) ?_
  refine v_if_eq (tgt := 28) dX4_isPane_5 (by decide) (fun h5 => ?_) (fun h5 => ?_)
  · skip
    refine v_iconst (v := 0) dX4_isPane_28 (by decide) ?_
    exact v_zretR dX4_isPane_29 (by simp only [s_isp, if_pos h5]) rfl
  · skip
    refine v_iload_n dX4_isPane_8 rfl 2 rfl ?_
    refine v_iconst (v := 0) dX4_isPane_9 (by decide) ?_
    refine v_aload_n dX4_isPane_10 rfl 0 rfl ?_
    refine v_get fX4_23 dX4_isPane_11 0 rfl rfl ?_
    refine v_iload_n dX4_isPane_14 rfl 1 rfl ?_
    refine v_iald dX4_isPane_15 1 rfl x.toNatClampNeg ((s_ish_ix hk6 h5).1) (Nat.lt_of_lt_of_le (s_ish_ix hk6 h5).2 hk6) (by decide) ?_
    refine v_iconst (v := 1) dX4_isPane_16 (by decide) ?_
    refine v_isub dX4_isPane_17 ?_
    refine v_sRd (As := [.int y, .int 0, .int (((pN pn) x.toNatClampNeg) - 1)]) (rest := []) (c_X4_in l G y 0 (((pN pn) x.toNatClampNeg) - 1) ) YX4_in mX4_77 dX4_isPane_18 [] rfl rfl rfl (Nat.le_of_ble_eq_true rfl) (by decide) (by decide) ?_
    refine v_eqi (s_isp x y (nI hk) (pN pn x.toNatClampNeg)) ((s_isp_in (hpn4 _) h5).symm) ?_
    refine v_if_eq (tgt := 28) dX4_isPane_21 (by decide) (fun h21 => ?_) (fun h21 => ?_)
    · skip
      refine v_iconst (v := 0) dX4_isPane_28 (by decide) ?_
      exact v_zretR dX4_isPane_29 h21.symm rfl
    · skip
      refine v_iconst (v := 1) dX4_isPane_24 (by decide) ?_
      refine v_goto (tgt := 29) dX4_isPane_25 (by decide) ?_
      exact v_zretR dX4_isPane_29 ((s_isp_1 h21).symm) rfl

theorem m_most0 {a b : Int32} (h : ¬ 0 ≤ a - b / 100 / 10) : (0 : Int32) = s_most a b := by
  unfold s_most s_max
  rw [if_neg (fun q => h (by rw [Int32.le_iff_toInt_le]; rw [Int32.lt_iff_toInt_lt] at q; omega))]
theorem m_most1 {a b : Int32} (h : 0 ≤ a - b / 100 / 10) : a - b / 100 / 10 = s_most a b := by
  unfold s_most s_max
  by_cases q : 0 < a - b / 100 / 10
  · rw [if_pos q]
  · rw [if_neg q]
    rw [Int32.le_iff_toInt_le] at h
    rw [Int32.lt_iff_toInt_lt] at q
    exact Int32.toInt_inj.mp (by omega)
set_option maxRecDepth 100000 in
set_option maxHeartbeats 4000000 in
theorem c_X4_most (l : Launch) (G : v_Cfg) (m0 : Nat) (md : Nat → Nat) (hk : Nat) (ho : Nat) (de : Nat) (fl : Int32) (ai : Int32) (rn : Int32) (rf : Int32) (rt : Int32) (bu : Int32) (bn : Nat) (wi : Nat → Int32) (mca : Nat → Nat → Int32) (s_ : Nat) (h : Nat) (hs : s_ < 7) (hh : h < 6) : RdI l G yX4_most cX4_most 4 (some .int) 0 [.ref m0, .int (nI s_), .int (nI h)] [(m0, .inr (4, [.int (nI hk), .int (nI ho), .int (nI de), .int fl, .int ai, .int rn, .int rf, .int rt, .ref (md 8), .ref (md 9), .ref (md 10), .ref (md 11), .ref (md 12), .ref (md 13), .ref (md 14), .ref (md 15), .ref (md 16), .ref (md 17), .ref (md 18), .ref (md 19), .ref (md 20), .ref (md 21), .ref (md 22), .int bu, .int (nI bn), .ref (md 25), .ref (md 26), .ref (md 27), .ref (md 28)])), (md 9, .inl (G.2.1, 6, .inl wi)), (md 13, .inl (G.2.1, 42, .inl (fl6 mca)))] (s_most (wi h) (mca s_ h)) := by
  refine RdI.of (own := RX4) (by decide) rfl (Nat.le_of_ble_eq_true rfl) (fun p e s m below meth c => ?_)
  refine v_aload_n dX4_most_0 rfl 0 rfl ?_
  refine v_get fX4_20 dX4_most_1 0 rfl rfl ?_
  refine v_iload_n dX4_most_4 rfl 2 rfl ?_
  refine v_iald dX4_most_5 1 rfl h rfl (by omega) (by decide) ?_
  refine v_aload_n dX4_most_6 rfl 0 rfl ?_
  refine v_get fX4_32 dX4_most_7 0 rfl rfl ?_
  refine v_bipush (v := nI 6) dX4_most_10 (by decide) ?_
  refine v_iload_n dX4_most_12 rfl 1 rfl ?_
  refine v_imul dX4_most_13 ?_
  refine v_iload_n dX4_most_14 rfl 2 rfl ?_
  refine v_iadd dX4_most_15 ?_
  refine v_eqi (nI (6 * s_ + h)) (m_ix 6 s_ h rfl) ?_
  refine v_iald dX4_most_16 2 rfl (6 * s_ + h) rfl (by omega) (by decide) ?_
  refine v_eqi (mca s_ h) (fl6_at _ hs hh) ?_
  refine v_bipush (v := 100) dX4_most_17 (by decide) ?_
  refine v_idiv dX4_most_19 (by decide) ?_
  refine v_bipush (v := 10) dX4_most_20 (by decide) ?_
  refine v_idiv dX4_most_22 (by decide) ?_
  refine v_isub dX4_most_23 ?_
  refine v_istore_n (lv' := [(3, .int ((wi h) - (((mca s_ h) / 100) / 10))), (0, .ref m0), (1, .int (nI s_)), (2, .int (nI h))]) dX4_most_24 rfl (by decide) rfl ?_
  refine v_iload_n dX4_most_25 rfl 0 rfl ?_
  refine v_if_ge (tgt := 33) dX4_most_26 (by decide) (fun h26 => ?_) (fun h26 => ?_)
  · skip
    refine v_iload_n dX4_most_33 rfl 0 rfl ?_
    exact v_iretR dX4_most_34 (m_most1 h26)
  · skip
    refine v_iconst (v := 0) dX4_most_29 (by decide) ?_
    refine v_goto (tgt := 34) dX4_most_30 (by decide) ?_
    exact v_iretR dX4_most_34 (m_most0 h26)

set_option maxRecDepth 100000 in
set_option maxHeartbeats 4000000 in
theorem c_X4_breaks (l : Launch) (G : v_Cfg) (m0 : Nat) (md : Nat → Nat) (hk : Nat) (ho : Nat) (de : Nat) (fl : Int32) (ai : Int32) (rn : Int32) (rf : Int32) (rt : Int32) (bu : Int32) (bn : Nat) (lh : Nat → Int32) (ls : Nat → Int32) (lw : Nat → Int32) (b : Int32) (d : Int32) (hbn : bn < 1000000) : MuV l G yX4_breaks cX4_breaks 3 none 0 [.ref m0, .int b, .int d] [(m0, .inr (4, [.int (nI hk), .int (nI ho), .int (nI de), .int fl, .int ai, .int rn, .int rf, .int rt, .ref (md 8), .ref (md 9), .ref (md 10), .ref (md 11), .ref (md 12), .ref (md 13), .ref (md 14), .ref (md 15), .ref (md 16), .ref (md 17), .ref (md 18), .ref (md 19), .ref (md 20), .ref (md 21), .ref (md 22), .int bu, .int (nI bn), .ref (md 25), .ref (md 26), .ref (md 27), .ref (md 28)])), (md 25, .inl (G.2.1, 60, .inl lh)), (md 26, .inl (G.2.1, 60, .inl ls)), (md 27, .inl (G.2.1, 60, .inl lw))] [(m0, .inr (4, [.int (nI hk), .int (nI ho), .int (nI de), .int fl, .int ai, .int rn, .int rf, .int rt, .ref (md 8), .ref (md 9), .ref (md 10), .ref (md 11), .ref (md 12), .ref (md 13), .ref (md 14), .ref (md 15), .ref (md 16), .ref (md 17), .ref (md 18), .ref (md 19), .ref (md 20), .ref (md 21), .ref (md 22), .int bu, .int (nI (bn + 1)), .ref (md 25), .ref (md 26), .ref (md 27), .ref (md 28)])), (md 25, .inl (G.2.1, 60, .inl (s_ent bn lh (nI ho)))), (md 26, .inl (G.2.1, 60, .inl (s_ent bn ls b))), (md 27, .inl (G.2.1, 60, .inl (s_ent bn lw d)))] := by
  refine MuV.of (own := RX4) (by decide) rfl (Nat.le_of_ble_eq_true rfl) (fun p e s m below meth c => ?_)
  refine v_aload_n dX4_breaks_0 rfl 0 rfl ?_
  refine v_get fX4_116 dX4_breaks_1 0 rfl rfl ?_
  refine v_bipush (v := nI 60) dX4_breaks_4 (by decide) ?_
  by_cases n6 : bn < 60
  · refine v_icmp_ge (tgt := 42) dX4_breaks_6 (by decide) (fun h6 => absurd h6 (nI_ge (by omega) (by omega))) (fun h6 => ?_)
    refine v_aload_n dX4_breaks_9 rfl 0 rfl ?_
    refine v_get fX4_62 dX4_breaks_10 0 rfl rfl ?_
    refine v_aload_n dX4_breaks_13 rfl 0 rfl ?_
    refine v_get fX4_116 dX4_breaks_14 0 rfl rfl ?_
    refine v_aload_n dX4_breaks_17 rfl 0 rfl ?_
    refine v_get fX4_113 dX4_breaks_18 0 rfl rfl ?_
    refine v_iast (ws' := [(m0, .inr (4, [.int (nI hk), .int (nI ho), .int (nI de), .int fl, .int ai, .int rn, .int rf, .int rt, .ref (md 8), .ref (md 9), .ref (md 10), .ref (md 11), .ref (md 12), .ref (md 13), .ref (md 14), .ref (md 15), .ref (md 16), .ref (md 17), .ref (md 18), .ref (md 19), .ref (md 20), .ref (md 21), .ref (md 22), .int bu, .int (nI bn), .ref (md 25), .ref (md 26), .ref (md 27), .ref (md 28)])), (md 25, .inl (G.2.1, 60, .inl (upd lh bn (nI ho)))), (md 26, .inl (G.2.1, 60, .inl ls)), (md 27, .inl (G.2.1, 60, .inl lw))]) dX4_breaks_21 1 rfl bn rfl (by omega) (by decide) rfl ?_
    refine v_aload_n dX4_breaks_22 rfl 0 rfl ?_
    refine v_get fX4_65 dX4_breaks_23 0 rfl rfl ?_
    refine v_aload_n dX4_breaks_26 rfl 0 rfl ?_
    refine v_get fX4_116 dX4_breaks_27 0 rfl rfl ?_
    refine v_iload_n dX4_breaks_30 rfl 1 rfl ?_
    refine v_iast (ws' := [(m0, .inr (4, [.int (nI hk), .int (nI ho), .int (nI de), .int fl, .int ai, .int rn, .int rf, .int rt, .ref (md 8), .ref (md 9), .ref (md 10), .ref (md 11), .ref (md 12), .ref (md 13), .ref (md 14), .ref (md 15), .ref (md 16), .ref (md 17), .ref (md 18), .ref (md 19), .ref (md 20), .ref (md 21), .ref (md 22), .int bu, .int (nI bn), .ref (md 25), .ref (md 26), .ref (md 27), .ref (md 28)])), (md 25, .inl (G.2.1, 60, .inl (upd lh bn (nI ho)))), (md 26, .inl (G.2.1, 60, .inl (upd ls bn b))), (md 27, .inl (G.2.1, 60, .inl lw))]) dX4_breaks_31 2 rfl bn rfl (by omega) (by decide) rfl ?_
    refine v_aload_n dX4_breaks_32 rfl 0 rfl ?_
    refine v_get fX4_68 dX4_breaks_33 0 rfl rfl ?_
    refine v_aload_n dX4_breaks_36 rfl 0 rfl ?_
    refine v_get fX4_116 dX4_breaks_37 0 rfl rfl ?_
    refine v_iload_n dX4_breaks_40 rfl 2 rfl ?_
    refine v_iast (ws' := [(m0, .inr (4, [.int (nI hk), .int (nI ho), .int (nI de), .int fl, .int ai, .int rn, .int rf, .int rt, .ref (md 8), .ref (md 9), .ref (md 10), .ref (md 11), .ref (md 12), .ref (md 13), .ref (md 14), .ref (md 15), .ref (md 16), .ref (md 17), .ref (md 18), .ref (md 19), .ref (md 20), .ref (md 21), .ref (md 22), .int bu, .int (nI bn), .ref (md 25), .ref (md 26), .ref (md 27), .ref (md 28)])), (md 25, .inl (G.2.1, 60, .inl (upd lh bn (nI ho)))), (md 26, .inl (G.2.1, 60, .inl (upd ls bn b))), (md 27, .inl (G.2.1, 60, .inl (upd lw bn d)))]) dX4_breaks_41 3 rfl bn rfl (by omega) (by decide) rfl ?_
    refine v_aload_n dX4_breaks_42 rfl 0 rfl ?_
    refine v_dup dX4_breaks_43 rfl ?_
    refine v_get fX4_116 dX4_breaks_44 0 rfl rfl ?_
    refine v_iconst (v := 1) dX4_breaks_47 (by decide) ?_
    refine v_iadd dX4_breaks_48 ?_
    refine v_eqi (nI (bn + 1)) (nI_1 bn) ?_
    refine v_puti (ws' := [(m0, .inr (4, [.int (nI hk), .int (nI ho), .int (nI de), .int fl, .int ai, .int rn, .int rf, .int rt, .ref (md 8), .ref (md 9), .ref (md 10), .ref (md 11), .ref (md 12), .ref (md 13), .ref (md 14), .ref (md 15), .ref (md 16), .ref (md 17), .ref (md 18), .ref (md 19), .ref (md 20), .ref (md 21), .ref (md 22), .int bu, .int (nI (bn + 1)), .ref (md 25), .ref (md 26), .ref (md 27), .ref (md 28)])), (md 25, .inl (G.2.1, 60, .inl (upd lh bn (nI ho)))), (md 26, .inl (G.2.1, 60, .inl (upd ls bn b))), (md 27, .inl (G.2.1, 60, .inl (upd lw bn d)))]) pX4_116 dX4_breaks_49 0 rfl (Nat.le_of_ble_eq_true rfl) rfl ?_
    exact v_vretM dX4_breaks_52 (v_w3 (fun (z0 : Nat → Int32) (z1 : Nat → Int32) (z2 : Nat → Int32) => ([(m0, .inr (4, [.int (nI hk), .int (nI ho), .int (nI de), .int fl, .int ai, .int rn, .int rf, .int rt, .ref (md 8), .ref (md 9), .ref (md 10), .ref (md 11), .ref (md 12), .ref (md 13), .ref (md 14), .ref (md 15), .ref (md 16), .ref (md 17), .ref (md 18), .ref (md 19), .ref (md 20), .ref (md 21), .ref (md 22), .int bu, .int (nI (bn + 1)), .ref (md 25), .ref (md 26), .ref (md 27), .ref (md 28)])), (md 25, .inl (G.2.1, 60, .inl z0)), (md 26, .inl (G.2.1, 60, .inl z1)), (md 27, .inl (G.2.1, 60, .inl z2))] : va_W)) (by simp only [s_ent, if_pos n6, u_id] <;> rfl) (by simp only [s_ent, if_pos n6, u_id] <;> rfl) (by simp only [s_ent, if_pos n6, u_id] <;> rfl))
  · refine v_icmp_ge (tgt := 42) dX4_breaks_6 (by decide) (fun h6 => ?_) (fun h6 => absurd (nI_le (by omega) (by omega)) h6)
    refine v_aload_n dX4_breaks_42 rfl 0 rfl ?_
    refine v_dup dX4_breaks_43 rfl ?_
    refine v_get fX4_116 dX4_breaks_44 0 rfl rfl ?_
    refine v_iconst (v := 1) dX4_breaks_47 (by decide) ?_
    refine v_iadd dX4_breaks_48 ?_
    refine v_eqi (nI (bn + 1)) (nI_1 bn) ?_
    refine v_puti (ws' := [(m0, .inr (4, [.int (nI hk), .int (nI ho), .int (nI de), .int fl, .int ai, .int rn, .int rf, .int rt, .ref (md 8), .ref (md 9), .ref (md 10), .ref (md 11), .ref (md 12), .ref (md 13), .ref (md 14), .ref (md 15), .ref (md 16), .ref (md 17), .ref (md 18), .ref (md 19), .ref (md 20), .ref (md 21), .ref (md 22), .int bu, .int (nI (bn + 1)), .ref (md 25), .ref (md 26), .ref (md 27), .ref (md 28)])), (md 25, .inl (G.2.1, 60, .inl lh)), (md 26, .inl (G.2.1, 60, .inl ls)), (md 27, .inl (G.2.1, 60, .inl lw))]) pX4_116 dX4_breaks_49 0 rfl (Nat.le_of_ble_eq_true rfl) rfl ?_
    exact v_vretM dX4_breaks_52 (v_w3 (fun (z0 : Nat → Int32) (z1 : Nat → Int32) (z2 : Nat → Int32) => ([(m0, .inr (4, [.int (nI hk), .int (nI ho), .int (nI de), .int fl, .int ai, .int rn, .int rf, .int rt, .ref (md 8), .ref (md 9), .ref (md 10), .ref (md 11), .ref (md 12), .ref (md 13), .ref (md 14), .ref (md 15), .ref (md 16), .ref (md 17), .ref (md 18), .ref (md 19), .ref (md 20), .ref (md 21), .ref (md 22), .int bu, .int (nI (bn + 1)), .ref (md 25), .ref (md 26), .ref (md 27), .ref (md 28)])), (md 25, .inl (G.2.1, 60, .inl z0)), (md 26, .inl (G.2.1, 60, .inl z1)), (md 27, .inl (G.2.1, 60, .inl z2))] : va_W)) (by simp only [s_ent, if_neg n6, u_id] <;> rfl) (by simp only [s_ent, if_neg n6, u_id] <;> rfl) (by simp only [s_ent, if_neg n6, u_id] <;> rfl))

set_option maxRecDepth 100000 in
set_option maxHeartbeats 4000000 in
theorem c_X4_flow (l : Launch) (G : v_Cfg) (m0 : Nat) (md : Nat → Nat) (hk : Nat) (ho : Nat) (de : Nat) (fl : Int32) (ai : Int32) (rn : Int32) (rf : Int32) (rt : Int32) (bu : Int32) (bn : Nat) (x : Int32) (hde : de ≤ 90) : MuI l G yX4_flow cX4_flow 3 (some .int) 1 [.ref m0, .int x] [(m0, .inr (4, [.int (nI hk), .int (nI ho), .int (nI de), .int fl, .int ai, .int rn, .int rf, .int rt, .ref (md 8), .ref (md 9), .ref (md 10), .ref (md 11), .ref (md 12), .ref (md 13), .ref (md 14), .ref (md 15), .ref (md 16), .ref (md 17), .ref (md 18), .ref (md 19), .ref (md 20), .ref (md 21), .ref (md 22), .int bu, .int (nI bn), .ref (md 25), .ref (md 26), .ref (md 27), .ref (md 28)]))] [(m0, .inr (4, [.int (nI hk), .int (nI ho), .int (nI (s_sel (s_in x 0 1000) (s_fu de) de de (de + 1))), .int (s_sel (s_in x 0 1000) (s_fu de) fl fl x), .int ai, .int rn, .int rf, .int rt, .ref (md 8), .ref (md 9), .ref (md 10), .ref (md 11), .ref (md 12), .ref (md 13), .ref (md 14), .ref (md 15), .ref (md 16), .ref (md 17), .ref (md 18), .ref (md 19), .ref (md 20), .ref (md 21), .ref (md 22), .int bu, .int (nI bn), .ref (md 25), .ref (md 26), .ref (md 27), .ref (md 28)]))] (s_sel (s_in x 0 1000) (s_fu de) ((-1)) ((-3)) fl) := by
  refine MuI.of (own := RX4) (by decide) rfl (Nat.le_of_ble_eq_true rfl) (fun p e s m below meth c => ?_)
  refine v_iload_n dX4_flow_0 rfl 1 rfl ?_
  refine v_iconst (v := 0) dX4_flow_1 (by decide) ?_
  refine v_sipush (v := 1000) dX4_flow_2 (by decide) ?_
  refine v_sRd (As := [.int x, .int 0, .int 1000]) (rest := []) (c_X4_in l G x 0 1000 ) YX4_in mX4_77 dX4_flow_5 [] rfl rfl rfl (Nat.le_of_ble_eq_true rfl) (by decide) (by decide) ?_
  refine v_if_ne (tgt := 13) dX4_flow_8 (by decide) (fun h8 => ?_) (fun h8 => ?_)
  · skip
    refine v_aload_n dX4_flow_13 rfl 0 rfl ?_
    refine v_vRd (As := []) (rest := []) (c_X4_isFull l G m0 md hk ho de fl ai rn rf rt bu bn (by omega)) YX4_isFull mX4_84 dX4_flow_14 ciX4 0 rfl [0] rfl rfl rfl (Nat.le_of_ble_eq_true rfl) (by decide) (by decide) ?_
    refine v_if_eq (tgt := 23) dX4_flow_17 (by decide) (fun h17 => ?_) (fun h17 => ?_)
    · skip
      refine v_aload_n dX4_flow_23 rfl 0 rfl ?_
      refine v_dup dX4_flow_24 rfl ?_
      refine v_get fX4_81 dX4_flow_25 0 rfl rfl ?_
      refine v_iconst (v := 1) dX4_flow_28 (by decide) ?_
      refine v_iadd dX4_flow_29 ?_
      refine v_eqi (nI (de + 1)) (nI_1 de) ?_
      refine v_puti (ws' := [(m0, .inr (4, [.int (nI hk), .int (nI ho), .int (nI (de + 1)), .int fl, .int ai, .int rn, .int rf, .int rt, .ref (md 8), .ref (md 9), .ref (md 10), .ref (md 11), .ref (md 12), .ref (md 13), .ref (md 14), .ref (md 15), .ref (md 16), .ref (md 17), .ref (md 18), .ref (md 19), .ref (md 20), .ref (md 21), .ref (md 22), .int bu, .int (nI bn), .ref (md 25), .ref (md 26), .ref (md 27), .ref (md 28)]))]) pX4_81 dX4_flow_30 0 rfl (Nat.le_of_ble_eq_true rfl) rfl ?_
      refine v_aload_n dX4_flow_33 rfl 0 rfl ?_
      refine v_get fX4_7 dX4_flow_34 0 rfl rfl ?_
      refine v_istore_n (lv' := [(2, .int fl), (0, .ref m0), (1, .int x)]) dX4_flow_37 rfl (by decide) rfl ?_
      refine v_aload_n dX4_flow_38 rfl 1 rfl ?_
      refine v_iload_n dX4_flow_39 rfl 2 rfl ?_
      refine v_puti (ws' := [(m0, .inr (4, [.int (nI hk), .int (nI ho), .int (nI (de + 1)), .int x, .int ai, .int rn, .int rf, .int rt, .ref (md 8), .ref (md 9), .ref (md 10), .ref (md 11), .ref (md 12), .ref (md 13), .ref (md 14), .ref (md 15), .ref (md 16), .ref (md 17), .ref (md 18), .ref (md 19), .ref (md 20), .ref (md 21), .ref (md 22), .int bu, .int (nI bn), .ref (md 25), .ref (md 26), .ref (md 27), .ref (md 28)]))]) pX4_7 dX4_flow_40 0 rfl (Nat.le_of_ble_eq_true rfl) rfl ?_
      refine v_iload_n dX4_flow_43 rfl 0 rfl ?_
      exact v_iretM dX4_flow_44 (by simp only [s_sel, if_neg h8, if_pos h17] <;> rfl) (v_w2 (fun (z0 : Int32) (z1 : Int32) => ([(m0, .inr (4, [.int (nI hk), .int (nI ho), .int z0, .int z1, .int ai, .int rn, .int rf, .int rt, .ref (md 8), .ref (md 9), .ref (md 10), .ref (md 11), .ref (md 12), .ref (md 13), .ref (md 14), .ref (md 15), .ref (md 16), .ref (md 17), .ref (md 18), .ref (md 19), .ref (md 20), .ref (md 21), .ref (md 22), .int bu, .int (nI bn), .ref (md 25), .ref (md 26), .ref (md 27), .ref (md 28)]))] : va_W)) (by simp only [s_sel, if_neg h8, if_pos h17, u_id] <;> rfl) (by simp only [s_sel, if_neg h8, if_pos h17, u_id] <;> rfl))
    · skip
      refine v_bipush (v := (-3)) dX4_flow_20 (by decide) ?_
      exact v_iretM dX4_flow_22 (by simp only [s_sel, if_neg h8, if_neg h17] <;> rfl) (v_w2 (fun (z0 : Int32) (z1 : Int32) => ([(m0, .inr (4, [.int (nI hk), .int (nI ho), .int z0, .int z1, .int ai, .int rn, .int rf, .int rt, .ref (md 8), .ref (md 9), .ref (md 10), .ref (md 11), .ref (md 12), .ref (md 13), .ref (md 14), .ref (md 15), .ref (md 16), .ref (md 17), .ref (md 18), .ref (md 19), .ref (md 20), .ref (md 21), .ref (md 22), .int bu, .int (nI bn), .ref (md 25), .ref (md 26), .ref (md 27), .ref (md 28)]))] : va_W)) (by simp only [s_sel, if_neg h8, if_neg h17, u_id] <;> rfl) (by simp only [s_sel, if_neg h8, if_neg h17, u_id] <;> rfl))
  · skip
    refine v_iconst (v := (-1)) dX4_flow_11 (by decide) ?_
    exact v_iretM dX4_flow_12 (by simp only [s_sel, if_pos h8] <;> rfl) (v_w2 (fun (z0 : Int32) (z1 : Int32) => ([(m0, .inr (4, [.int (nI hk), .int (nI ho), .int z0, .int z1, .int ai, .int rn, .int rf, .int rt, .ref (md 8), .ref (md 9), .ref (md 10), .ref (md 11), .ref (md 12), .ref (md 13), .ref (md 14), .ref (md 15), .ref (md 16), .ref (md 17), .ref (md 18), .ref (md 19), .ref (md 20), .ref (md 21), .ref (md 22), .int bu, .int (nI bn), .ref (md 25), .ref (md 26), .ref (md 27), .ref (md 28)]))] : va_W)) (by simp only [s_sel, if_pos h8, u_id] <;> rfl) (by simp only [s_sel, if_pos h8, u_id] <;> rfl))

set_option maxRecDepth 100000 in
set_option maxHeartbeats 4000000 in
theorem c_X4_air (l : Launch) (G : v_Cfg) (m0 : Nat) (md : Nat → Nat) (hk : Nat) (ho : Nat) (de : Nat) (fl : Int32) (ai : Int32) (rn : Int32) (rf : Int32) (rt : Int32) (bu : Int32) (bn : Nat) (x : Int32) (hde : de ≤ 90) : MuI l G yX4_air cX4_air 3 (some .int) 1 [.ref m0, .int x] [(m0, .inr (4, [.int (nI hk), .int (nI ho), .int (nI de), .int fl, .int ai, .int rn, .int rf, .int rt, .ref (md 8), .ref (md 9), .ref (md 10), .ref (md 11), .ref (md 12), .ref (md 13), .ref (md 14), .ref (md 15), .ref (md 16), .ref (md 17), .ref (md 18), .ref (md 19), .ref (md 20), .ref (md 21), .ref (md 22), .int bu, .int (nI bn), .ref (md 25), .ref (md 26), .ref (md 27), .ref (md 28)]))] [(m0, .inr (4, [.int (nI hk), .int (nI ho), .int (nI (s_sel (s_in x (-20) 30) (s_fu de) de de (de + 1))), .int fl, .int (s_sel (s_in x (-20) 30) (s_fu de) ai ai x), .int rn, .int rf, .int rt, .ref (md 8), .ref (md 9), .ref (md 10), .ref (md 11), .ref (md 12), .ref (md 13), .ref (md 14), .ref (md 15), .ref (md 16), .ref (md 17), .ref (md 18), .ref (md 19), .ref (md 20), .ref (md 21), .ref (md 22), .int bu, .int (nI bn), .ref (md 25), .ref (md 26), .ref (md 27), .ref (md 28)]))] (s_sel (s_in x (-20) 30) (s_fu de) ((-100)) ((-101)) ai) := by
  refine MuI.of (own := RX4) (by decide) rfl (Nat.le_of_ble_eq_true rfl) (fun p e s m below meth c => ?_)
  refine v_iload_n dX4_air_0 rfl 1 rfl ?_
  refine v_bipush (v := (-20)) dX4_air_1 (by decide) ?_
  refine v_bipush (v := 30) dX4_air_3 (by decide) ?_
  refine v_sRd (As := [.int x, .int ((-20)), .int 30]) (rest := []) (c_X4_in l G x (-20) 30 ) YX4_in mX4_77 dX4_air_5 [] rfl rfl rfl (Nat.le_of_ble_eq_true rfl) (by decide) (by decide) ?_
  refine v_if_ne (tgt := 14) dX4_air_8 (by decide) (fun h8 => ?_) (fun h8 => ?_)
  · skip
    refine v_aload_n dX4_air_14 rfl 0 rfl ?_
    refine v_vRd (As := []) (rest := []) (c_X4_isFull l G m0 md hk ho de fl ai rn rf rt bu bn (by omega)) YX4_isFull mX4_84 dX4_air_15 ciX4 0 rfl [0] rfl rfl rfl (Nat.le_of_ble_eq_true rfl) (by decide) (by decide) ?_
    refine v_if_eq (tgt := 24) dX4_air_18 (by decide) (fun h18 => ?_) (fun h18 => ?_)
    · skip
      refine v_aload_n dX4_air_24 rfl 0 rfl ?_
      refine v_dup dX4_air_25 rfl ?_
      refine v_get fX4_81 dX4_air_26 0 rfl rfl ?_
      refine v_iconst (v := 1) dX4_air_29 (by decide) ?_
      refine v_iadd dX4_air_30 ?_
      refine v_eqi (nI (de + 1)) (nI_1 de) ?_
      refine v_puti (ws' := [(m0, .inr (4, [.int (nI hk), .int (nI ho), .int (nI (de + 1)), .int fl, .int ai, .int rn, .int rf, .int rt, .ref (md 8), .ref (md 9), .ref (md 10), .ref (md 11), .ref (md 12), .ref (md 13), .ref (md 14), .ref (md 15), .ref (md 16), .ref (md 17), .ref (md 18), .ref (md 19), .ref (md 20), .ref (md 21), .ref (md 22), .int bu, .int (nI bn), .ref (md 25), .ref (md 26), .ref (md 27), .ref (md 28)]))]) pX4_81 dX4_air_31 0 rfl (Nat.le_of_ble_eq_true rfl) rfl ?_
      refine v_aload_n dX4_air_34 rfl 0 rfl ?_
      refine v_get fX4_13 dX4_air_35 0 rfl rfl ?_
      refine v_istore_n (lv' := [(2, .int ai), (0, .ref m0), (1, .int x)]) dX4_air_38 rfl (by decide) rfl ?_
      refine v_aload_n dX4_air_39 rfl 1 rfl ?_
      refine v_iload_n dX4_air_40 rfl 2 rfl ?_
      refine v_puti (ws' := [(m0, .inr (4, [.int (nI hk), .int (nI ho), .int (nI (de + 1)), .int fl, .int x, .int rn, .int rf, .int rt, .ref (md 8), .ref (md 9), .ref (md 10), .ref (md 11), .ref (md 12), .ref (md 13), .ref (md 14), .ref (md 15), .ref (md 16), .ref (md 17), .ref (md 18), .ref (md 19), .ref (md 20), .ref (md 21), .ref (md 22), .int bu, .int (nI bn), .ref (md 25), .ref (md 26), .ref (md 27), .ref (md 28)]))]) pX4_13 dX4_air_41 0 rfl (Nat.le_of_ble_eq_true rfl) rfl ?_
      refine v_iload_n dX4_air_44 rfl 0 rfl ?_
      exact v_iretM dX4_air_45 (by simp only [s_sel, if_neg h8, if_pos h18] <;> rfl) (v_w2 (fun (z0 : Int32) (z1 : Int32) => ([(m0, .inr (4, [.int (nI hk), .int (nI ho), .int z0, .int fl, .int z1, .int rn, .int rf, .int rt, .ref (md 8), .ref (md 9), .ref (md 10), .ref (md 11), .ref (md 12), .ref (md 13), .ref (md 14), .ref (md 15), .ref (md 16), .ref (md 17), .ref (md 18), .ref (md 19), .ref (md 20), .ref (md 21), .ref (md 22), .int bu, .int (nI bn), .ref (md 25), .ref (md 26), .ref (md 27), .ref (md 28)]))] : va_W)) (by simp only [s_sel, if_neg h8, if_pos h18, u_id] <;> rfl) (by simp only [s_sel, if_neg h8, if_pos h18, u_id] <;> rfl))
    · skip
      refine v_bipush (v := (-101)) dX4_air_21 (by decide) ?_
      exact v_iretM dX4_air_23 (by simp only [s_sel, if_neg h8, if_neg h18] <;> rfl) (v_w2 (fun (z0 : Int32) (z1 : Int32) => ([(m0, .inr (4, [.int (nI hk), .int (nI ho), .int z0, .int fl, .int z1, .int rn, .int rf, .int rt, .ref (md 8), .ref (md 9), .ref (md 10), .ref (md 11), .ref (md 12), .ref (md 13), .ref (md 14), .ref (md 15), .ref (md 16), .ref (md 17), .ref (md 18), .ref (md 19), .ref (md 20), .ref (md 21), .ref (md 22), .int bu, .int (nI bn), .ref (md 25), .ref (md 26), .ref (md 27), .ref (md 28)]))] : va_W)) (by simp only [s_sel, if_neg h8, if_neg h18, u_id] <;> rfl) (by simp only [s_sel, if_neg h8, if_neg h18, u_id] <;> rfl))
  · skip
    refine v_bipush (v := (-100)) dX4_air_11 (by decide) ?_
    exact v_iretM dX4_air_13 (by simp only [s_sel, if_pos h8] <;> rfl) (v_w2 (fun (z0 : Int32) (z1 : Int32) => ([(m0, .inr (4, [.int (nI hk), .int (nI ho), .int z0, .int fl, .int z1, .int rn, .int rf, .int rt, .ref (md 8), .ref (md 9), .ref (md 10), .ref (md 11), .ref (md 12), .ref (md 13), .ref (md 14), .ref (md 15), .ref (md 16), .ref (md 17), .ref (md 18), .ref (md 19), .ref (md 20), .ref (md 21), .ref (md 22), .int bu, .int (nI bn), .ref (md 25), .ref (md 26), .ref (md 27), .ref (md 28)]))] : va_W)) (by simp only [s_sel, if_pos h8, u_id] <;> rfl) (by simp only [s_sel, if_pos h8, u_id] <;> rfl))

set_option maxRecDepth 100000 in
set_option maxHeartbeats 4000000 in
theorem c_X4_open (l : Launch) (G : v_Cfg) (m0 : Nat) (md : Nat → Nat) (hk : Nat) (ho : Nat) (de : Nat) (fl : Int32) (ai : Int32) (rn : Int32) (rf : Int32) (rt : Int32) (bu : Int32) (bn : Nat) (qu : Nat → Int32) (x : Int32) (y : Int32) (hde : de ≤ 90) (hk6 : hk ≤ 6) : MuI l G yX4_open cX4_open 4 (some .int) 2 [.ref m0, .int x, .int y] [(m0, .inr (4, [.int (nI hk), .int (nI ho), .int (nI de), .int fl, .int ai, .int rn, .int rf, .int rt, .ref (md 8), .ref (md 9), .ref (md 10), .ref (md 11), .ref (md 12), .ref (md 13), .ref (md 14), .ref (md 15), .ref (md 16), .ref (md 17), .ref (md 18), .ref (md 19), .ref (md 20), .ref (md 21), .ref (md 22), .int bu, .int (nI bn), .ref (md 25), .ref (md 26), .ref (md 27), .ref (md 28)])), (md 11, .inl (G.2.1, 6, .inl qu))] [(m0, .inr (4, [.int (nI hk), .int (nI ho), .int (nI (s_sel2 (s_ish x (nI hk)) (s_in y 0 4) (s_fu de) de de (de + 1))), .int fl, .int ai, .int rn, .int rf, .int rt, .ref (md 8), .ref (md 9), .ref (md 10), .ref (md 11), .ref (md 12), .ref (md 13), .ref (md 14), .ref (md 15), .ref (md 16), .ref (md 17), .ref (md 18), .ref (md 19), .ref (md 20), .ref (md 21), .ref (md 22), .int bu, .int (nI bn), .ref (md 25), .ref (md 26), .ref (md 27), .ref (md 28)])), (md 11, .inl (G.2.1, 6, .inl (s_sel2 (s_ish x (nI hk)) (s_in y 0 4) (s_fu de) qu qu (upd qu x.toNatClampNeg y))))] (s_sel2 (s_ish x (nI hk)) (s_in y 0 4) (s_fu de) ((-1)) ((-3)) (qu x.toNatClampNeg)) := by
  refine MuI.of (own := RX4) (by decide) rfl (Nat.le_of_ble_eq_true rfl) (fun p e s m below meth c => ?_)
  refine v_aload_n dX4_open_0 rfl 0 rfl ?_
  refine v_iload_n dX4_open_1 rfl 1 rfl ?_
  refine v_vRd (As := [.int x]) (rest := []) (c_X4_isHatch l G m0 md hk ho de fl ai rn rf rt bu bn x (by omega)) YX4_isHatch mX4_88 dX4_open_2 ciX4 0 rfl [0] rfl rfl rfl (Nat.le_of_ble_eq_true rfl) (by decide) (by decide) ?_
  refine v_if_eq (tgt := 17) dX4_open_5 (by decide) (fun h5 => ?_) (fun h5 => ?_)
  · skip
    refine v_iconst (v := (-1)) dX4_open_17 (by decide) ?_
    exact v_iretM dX4_open_18 (by simp only [s_sel2, if_pos h5] <;> rfl) (v_w2 (fun (z0 : Int32) (z1 : Nat → Int32) => ([(m0, .inr (4, [.int (nI hk), .int (nI ho), .int z0, .int fl, .int ai, .int rn, .int rf, .int rt, .ref (md 8), .ref (md 9), .ref (md 10), .ref (md 11), .ref (md 12), .ref (md 13), .ref (md 14), .ref (md 15), .ref (md 16), .ref (md 17), .ref (md 18), .ref (md 19), .ref (md 20), .ref (md 21), .ref (md 22), .int bu, .int (nI bn), .ref (md 25), .ref (md 26), .ref (md 27), .ref (md 28)])), (md 11, .inl (G.2.1, 6, .inl z1))] : va_W)) (by simp only [s_sel2, if_pos h5, u_id] <;> rfl) (by simp only [s_sel2, if_pos h5, u_id] <;> rfl))
  · skip
    refine v_iload_n dX4_open_8 rfl 2 rfl ?_
    refine v_iconst (v := 0) dX4_open_9 (by decide) ?_
    refine v_iconst (v := 4) dX4_open_10 (by decide) ?_
    refine v_sRd (As := [.int y, .int 0, .int 4]) (rest := []) (c_X4_in l G y 0 4 ) YX4_in mX4_77 dX4_open_11 [] rfl rfl rfl (Nat.le_of_ble_eq_true rfl) (by decide) (by decide) ?_
    refine v_if_ne (tgt := 19) dX4_open_14 (by decide) (fun h14 => ?_) (fun h14 => ?_)
    · skip
      refine v_aload_n dX4_open_19 rfl 0 rfl ?_
      refine v_vRd (As := []) (rest := []) (c_X4_isFull l G m0 md hk ho de fl ai rn rf rt bu bn (by omega)) YX4_isFull mX4_84 dX4_open_20 ciX4 0 rfl [0] rfl rfl rfl (Nat.le_of_ble_eq_true rfl) (by decide) (by decide) ?_
      refine v_if_eq (tgt := 29) dX4_open_23 (by decide) (fun h23 => ?_) (fun h23 => ?_)
      · skip
        refine v_aload_n dX4_open_29 rfl 0 rfl ?_
        refine v_dup dX4_open_30 rfl ?_
        refine v_get fX4_81 dX4_open_31 0 rfl rfl ?_
        refine v_iconst (v := 1) dX4_open_34 (by decide) ?_
        refine v_iadd dX4_open_35 ?_
        refine v_eqi (nI (de + 1)) (nI_1 de) ?_
        refine v_puti (ws' := [(m0, .inr (4, [.int (nI hk), .int (nI ho), .int (nI (de + 1)), .int fl, .int ai, .int rn, .int rf, .int rt, .ref (md 8), .ref (md 9), .ref (md 10), .ref (md 11), .ref (md 12), .ref (md 13), .ref (md 14), .ref (md 15), .ref (md 16), .ref (md 17), .ref (md 18), .ref (md 19), .ref (md 20), .ref (md 21), .ref (md 22), .int bu, .int (nI bn), .ref (md 25), .ref (md 26), .ref (md 27), .ref (md 28)])), (md 11, .inl (G.2.1, 6, .inl qu))]) pX4_81 dX4_open_36 0 rfl (Nat.le_of_ble_eq_true rfl) rfl ?_
        refine v_aload_n dX4_open_39 rfl 0 rfl ?_
        refine v_get fX4_26 dX4_open_40 0 rfl rfl ?_
        refine v_iload_n dX4_open_43 rfl 1 rfl ?_
        refine v_iald dX4_open_44 1 rfl x.toNatClampNeg ((s_ish_ix hk6 h5).1) (Nat.lt_of_lt_of_le (s_ish_ix hk6 h5).2 hk6) (by decide) ?_
        refine v_istore_n (lv' := [(3, .int (qu x.toNatClampNeg)), (0, .ref m0), (1, .int x), (2, .int y)]) dX4_open_45 rfl (by decide) rfl ?_
        refine v_aload_n dX4_open_46 rfl 1 rfl ?_
        refine v_get fX4_26 dX4_open_47 0 rfl rfl ?_
        refine v_iload_n dX4_open_50 rfl 2 rfl ?_
        refine v_iload_n dX4_open_51 rfl 3 rfl ?_
        refine v_iast (ws' := [(m0, .inr (4, [.int (nI hk), .int (nI ho), .int (nI (de + 1)), .int fl, .int ai, .int rn, .int rf, .int rt, .ref (md 8), .ref (md 9), .ref (md 10), .ref (md 11), .ref (md 12), .ref (md 13), .ref (md 14), .ref (md 15), .ref (md 16), .ref (md 17), .ref (md 18), .ref (md 19), .ref (md 20), .ref (md 21), .ref (md 22), .int bu, .int (nI bn), .ref (md 25), .ref (md 26), .ref (md 27), .ref (md 28)])), (md 11, .inl (G.2.1, 6, .inl (upd qu x.toNatClampNeg y)))]) dX4_open_52 1 rfl x.toNatClampNeg ((s_ish_ix hk6 h5).1) (Nat.lt_of_lt_of_le (s_ish_ix hk6 h5).2 hk6) (by decide) rfl ?_
        refine v_iload_n dX4_open_53 rfl 0 rfl ?_
        exact v_iretM dX4_open_54 (by simp only [s_sel2, if_neg h5, if_neg h14, if_pos h23] <;> rfl) (v_w2 (fun (z0 : Int32) (z1 : Nat → Int32) => ([(m0, .inr (4, [.int (nI hk), .int (nI ho), .int z0, .int fl, .int ai, .int rn, .int rf, .int rt, .ref (md 8), .ref (md 9), .ref (md 10), .ref (md 11), .ref (md 12), .ref (md 13), .ref (md 14), .ref (md 15), .ref (md 16), .ref (md 17), .ref (md 18), .ref (md 19), .ref (md 20), .ref (md 21), .ref (md 22), .int bu, .int (nI bn), .ref (md 25), .ref (md 26), .ref (md 27), .ref (md 28)])), (md 11, .inl (G.2.1, 6, .inl z1))] : va_W)) (by simp only [s_sel2, if_neg h5, if_neg h14, if_pos h23, u_id] <;> rfl) (by simp only [s_sel2, if_neg h5, if_neg h14, if_pos h23, u_id] <;> rfl))
      · skip
        refine v_bipush (v := (-3)) dX4_open_26 (by decide) ?_
        exact v_iretM dX4_open_28 (by simp only [s_sel2, if_neg h5, if_neg h14, if_neg h23] <;> rfl) (v_w2 (fun (z0 : Int32) (z1 : Nat → Int32) => ([(m0, .inr (4, [.int (nI hk), .int (nI ho), .int z0, .int fl, .int ai, .int rn, .int rf, .int rt, .ref (md 8), .ref (md 9), .ref (md 10), .ref (md 11), .ref (md 12), .ref (md 13), .ref (md 14), .ref (md 15), .ref (md 16), .ref (md 17), .ref (md 18), .ref (md 19), .ref (md 20), .ref (md 21), .ref (md 22), .int bu, .int (nI bn), .ref (md 25), .ref (md 26), .ref (md 27), .ref (md 28)])), (md 11, .inl (G.2.1, 6, .inl z1))] : va_W)) (by simp only [s_sel2, if_neg h5, if_neg h14, if_neg h23, u_id] <;> rfl) (by simp only [s_sel2, if_neg h5, if_neg h14, if_neg h23, u_id] <;> rfl))
    · skip
      refine v_iconst (v := (-1)) dX4_open_17 (by decide) ?_
      exact v_iretM dX4_open_18 (by simp only [s_sel2, if_neg h5, if_pos h14] <;> rfl) (v_w2 (fun (z0 : Int32) (z1 : Nat → Int32) => ([(m0, .inr (4, [.int (nI hk), .int (nI ho), .int z0, .int fl, .int ai, .int rn, .int rf, .int rt, .ref (md 8), .ref (md 9), .ref (md 10), .ref (md 11), .ref (md 12), .ref (md 13), .ref (md 14), .ref (md 15), .ref (md 16), .ref (md 17), .ref (md 18), .ref (md 19), .ref (md 20), .ref (md 21), .ref (md 22), .int bu, .int (nI bn), .ref (md 25), .ref (md 26), .ref (md 27), .ref (md 28)])), (md 11, .inl (G.2.1, 6, .inl z1))] : va_W)) (by simp only [s_sel2, if_neg h5, if_pos h14, u_id] <;> rfl) (by simp only [s_sel2, if_neg h5, if_pos h14, u_id] <;> rfl))

set_option maxRecDepth 100000 in
set_option maxHeartbeats 4000000 in
theorem c_X4_sheep (l : Launch) (G : v_Cfg) (m0 : Nat) (md : Nat → Nat) (hk : Nat) (ho : Nat) (de : Nat) (fl : Int32) (ai : Int32) (rn : Int32) (rf : Int32) (rt : Int32) (bu : Int32) (bn : Nat) (sh : Nat → Int32) (pn : Nat → Nat) (x : Int32) (y : Int32) (z : Int32) (hde : de ≤ 90) (hk6 : hk ≤ 6) (hpn4 : ∀ h, pn h ≤ 4) : MuI l G yX4_sheep cX4_sheep 5 (some .int) 3 [.ref m0, .int x, .int y, .int z] [(m0, .inr (4, [.int (nI hk), .int (nI ho), .int (nI de), .int fl, .int ai, .int rn, .int rf, .int rt, .ref (md 8), .ref (md 9), .ref (md 10), .ref (md 11), .ref (md 12), .ref (md 13), .ref (md 14), .ref (md 15), .ref (md 16), .ref (md 17), .ref (md 18), .ref (md 19), .ref (md 20), .ref (md 21), .ref (md 22), .int bu, .int (nI bn), .ref (md 25), .ref (md 26), .ref (md 27), .ref (md 28)])), (md 10, .inl (G.2.1, 6, .inl (pN pn))), (md 12, .inl (G.2.1, 24, .inl sh))] [(m0, .inr (4, [.int (nI hk), .int (nI ho), .int (nI (s_sel2 (s_isp x y (nI hk) (pN pn x.toNatClampNeg)) (s_in z 0 50) (s_fu de) de de (de + 1))), .int fl, .int ai, .int rn, .int rf, .int rt, .ref (md 8), .ref (md 9), .ref (md 10), .ref (md 11), .ref (md 12), .ref (md 13), .ref (md 14), .ref (md 15), .ref (md 16), .ref (md 17), .ref (md 18), .ref (md 19), .ref (md 20), .ref (md 21), .ref (md 22), .int bu, .int (nI bn), .ref (md 25), .ref (md 26), .ref (md 27), .ref (md 28)])), (md 10, .inl (G.2.1, 6, .inl (pN pn))), (md 12, .inl (G.2.1, 24, .inl (s_sel2 (s_isp x y (nI hk) (pN pn x.toNatClampNeg)) (s_in z 0 50) (s_fu de) sh sh (upd sh (4 * x.toNatClampNeg + y.toNatClampNeg) z))))] (s_sel2 (s_isp x y (nI hk) (pN pn x.toNatClampNeg)) (s_in z 0 50) (s_fu de) ((-1)) ((-3)) (sh (4 * x.toNatClampNeg + y.toNatClampNeg))) := by
  refine MuI.of (own := RX4) (by decide) rfl (Nat.le_of_ble_eq_true rfl) (fun p e s m below meth c => ?_)
  refine v_aload_n dX4_sheep_0 rfl 0 rfl ?_
  refine v_iload_n dX4_sheep_1 rfl 1 rfl ?_
  refine v_iload_n dX4_sheep_2 rfl 2 rfl ?_
  refine v_vRd (As := [.int x, .int y]) (rest := []) (c_X4_isPane l G m0 md hk ho de fl ai rn rf rt bu bn pn x y hk6 hpn4) YX4_isPane mX4_92 dX4_sheep_3 ciX4 0 rfl [0, 1] rfl rfl rfl (Nat.le_of_ble_eq_true rfl) (by decide) (by decide) ?_
  refine v_if_eq (tgt := 19) dX4_sheep_6 (by decide) (fun h6 => ?_) (fun h6 => ?_)
  · skip
    refine v_iconst (v := (-1)) dX4_sheep_19 (by decide) ?_
    exact v_iretM dX4_sheep_20 (by simp only [s_sel2, if_pos h6] <;> rfl) (v_w2 (fun (z0 : Int32) (z1 : Nat → Int32) => ([(m0, .inr (4, [.int (nI hk), .int (nI ho), .int z0, .int fl, .int ai, .int rn, .int rf, .int rt, .ref (md 8), .ref (md 9), .ref (md 10), .ref (md 11), .ref (md 12), .ref (md 13), .ref (md 14), .ref (md 15), .ref (md 16), .ref (md 17), .ref (md 18), .ref (md 19), .ref (md 20), .ref (md 21), .ref (md 22), .int bu, .int (nI bn), .ref (md 25), .ref (md 26), .ref (md 27), .ref (md 28)])), (md 10, .inl (G.2.1, 6, .inl (pN pn))), (md 12, .inl (G.2.1, 24, .inl z1))] : va_W)) (by simp only [s_sel2, if_pos h6, u_id] <;> rfl) (by simp only [s_sel2, if_pos h6, u_id] <;> rfl))
  · skip
    refine v_iload_n dX4_sheep_9 rfl 3 rfl ?_
    refine v_iconst (v := 0) dX4_sheep_10 (by decide) ?_
    refine v_bipush (v := 50) dX4_sheep_11 (by decide) ?_
    refine v_sRd (As := [.int z, .int 0, .int 50]) (rest := []) (c_X4_in l G z 0 50 ) YX4_in mX4_77 dX4_sheep_13 [] rfl rfl rfl (Nat.le_of_ble_eq_true rfl) (by decide) (by decide) ?_
    refine v_if_ne (tgt := 21) dX4_sheep_16 (by decide) (fun h16 => ?_) (fun h16 => ?_)
    · skip
      refine v_aload_n dX4_sheep_21 rfl 0 rfl ?_
      refine v_vRd (As := []) (rest := []) (c_X4_isFull l G m0 md hk ho de fl ai rn rf rt bu bn (by omega)) YX4_isFull mX4_84 dX4_sheep_22 ciX4 0 rfl [0] rfl rfl rfl (Nat.le_of_ble_eq_true rfl) (by decide) (by decide) ?_
      refine v_if_eq (tgt := 31) dX4_sheep_25 (by decide) (fun h25 => ?_) (fun h25 => ?_)
      · skip
        refine v_aload_n dX4_sheep_31 rfl 0 rfl ?_
        refine v_dup dX4_sheep_32 rfl ?_
        refine v_get fX4_81 dX4_sheep_33 0 rfl rfl ?_
        refine v_iconst (v := 1) dX4_sheep_36 (by decide) ?_
        refine v_iadd dX4_sheep_37 ?_
        refine v_eqi (nI (de + 1)) (nI_1 de) ?_
        refine v_puti (ws' := [(m0, .inr (4, [.int (nI hk), .int (nI ho), .int (nI (de + 1)), .int fl, .int ai, .int rn, .int rf, .int rt, .ref (md 8), .ref (md 9), .ref (md 10), .ref (md 11), .ref (md 12), .ref (md 13), .ref (md 14), .ref (md 15), .ref (md 16), .ref (md 17), .ref (md 18), .ref (md 19), .ref (md 20), .ref (md 21), .ref (md 22), .int bu, .int (nI bn), .ref (md 25), .ref (md 26), .ref (md 27), .ref (md 28)])), (md 10, .inl (G.2.1, 6, .inl (pN pn))), (md 12, .inl (G.2.1, 24, .inl sh))]) pX4_81 dX4_sheep_38 0 rfl (Nat.le_of_ble_eq_true rfl) rfl ?_
        refine v_aload_n dX4_sheep_41 rfl 0 rfl ?_
        refine v_get fX4_29 dX4_sheep_42 0 rfl rfl ?_
        have hix := s_isp_ix hk6 (hpn4 x.toNatClampNeg) rfl h6
        have hi4 := hpn4 x.toNatClampNeg
        have hpl : nI 4 * x + y = nI (4 * x.toNatClampNeg + y.toNatClampNeg) := (congrArg (nI 4 * · + y) hix.1.1).trans (m_ix 4 x.toNatClampNeg y.toNatClampNeg hix.2.1)
        refine v_iconst (v := nI 4) dX4_sheep_45 (by decide) ?_
        refine v_iload_n dX4_sheep_46 rfl 1 rfl ?_
        refine v_imul dX4_sheep_47 ?_
        refine v_iload_n dX4_sheep_48 rfl 2 rfl ?_
        refine v_iadd dX4_sheep_49 ?_
        refine v_iald dX4_sheep_50 2 rfl (4 * x.toNatClampNeg + y.toNatClampNeg) hpl (by omega) (by decide) ?_
        refine v_istore (lv' := [(4, .int (sh (4 * x.toNatClampNeg + y.toNatClampNeg))), (0, .ref m0), (1, .int x), (2, .int y), (3, .int z)]) dX4_sheep_51 (by decide) rfl ?_
        refine v_aload_n dX4_sheep_53 rfl 1 rfl ?_
        refine v_get fX4_29 dX4_sheep_54 0 rfl rfl ?_
        refine v_iconst (v := nI 4) dX4_sheep_57 (by decide) ?_
        refine v_iload_n dX4_sheep_58 rfl 2 rfl ?_
        refine v_imul dX4_sheep_59 ?_
        refine v_iload_n dX4_sheep_60 rfl 3 rfl ?_
        refine v_iadd dX4_sheep_61 ?_
        refine v_iload_n dX4_sheep_62 rfl 4 rfl ?_
        refine v_iast (ws' := [(m0, .inr (4, [.int (nI hk), .int (nI ho), .int (nI (de + 1)), .int fl, .int ai, .int rn, .int rf, .int rt, .ref (md 8), .ref (md 9), .ref (md 10), .ref (md 11), .ref (md 12), .ref (md 13), .ref (md 14), .ref (md 15), .ref (md 16), .ref (md 17), .ref (md 18), .ref (md 19), .ref (md 20), .ref (md 21), .ref (md 22), .int bu, .int (nI bn), .ref (md 25), .ref (md 26), .ref (md 27), .ref (md 28)])), (md 10, .inl (G.2.1, 6, .inl (pN pn))), (md 12, .inl (G.2.1, 24, .inl (upd sh (4 * x.toNatClampNeg + y.toNatClampNeg) z)))]) dX4_sheep_63 2 rfl (4 * x.toNatClampNeg + y.toNatClampNeg) hpl (by omega) (by decide) rfl ?_
        refine v_iload dX4_sheep_64 0 rfl ?_
        exact v_iretM dX4_sheep_66 (by simp only [s_sel2, if_neg h6, if_neg h16, if_pos h25] <;> rfl) (v_w2 (fun (z0 : Int32) (z1 : Nat → Int32) => ([(m0, .inr (4, [.int (nI hk), .int (nI ho), .int z0, .int fl, .int ai, .int rn, .int rf, .int rt, .ref (md 8), .ref (md 9), .ref (md 10), .ref (md 11), .ref (md 12), .ref (md 13), .ref (md 14), .ref (md 15), .ref (md 16), .ref (md 17), .ref (md 18), .ref (md 19), .ref (md 20), .ref (md 21), .ref (md 22), .int bu, .int (nI bn), .ref (md 25), .ref (md 26), .ref (md 27), .ref (md 28)])), (md 10, .inl (G.2.1, 6, .inl (pN pn))), (md 12, .inl (G.2.1, 24, .inl z1))] : va_W)) (by simp only [s_sel2, if_neg h6, if_neg h16, if_pos h25, u_id] <;> rfl) (by simp only [s_sel2, if_neg h6, if_neg h16, if_pos h25, u_id] <;> rfl))
      · skip
        refine v_bipush (v := (-3)) dX4_sheep_28 (by decide) ?_
        exact v_iretM dX4_sheep_30 (by simp only [s_sel2, if_neg h6, if_neg h16, if_neg h25] <;> rfl) (v_w2 (fun (z0 : Int32) (z1 : Nat → Int32) => ([(m0, .inr (4, [.int (nI hk), .int (nI ho), .int z0, .int fl, .int ai, .int rn, .int rf, .int rt, .ref (md 8), .ref (md 9), .ref (md 10), .ref (md 11), .ref (md 12), .ref (md 13), .ref (md 14), .ref (md 15), .ref (md 16), .ref (md 17), .ref (md 18), .ref (md 19), .ref (md 20), .ref (md 21), .ref (md 22), .int bu, .int (nI bn), .ref (md 25), .ref (md 26), .ref (md 27), .ref (md 28)])), (md 10, .inl (G.2.1, 6, .inl (pN pn))), (md 12, .inl (G.2.1, 24, .inl z1))] : va_W)) (by simp only [s_sel2, if_neg h6, if_neg h16, if_neg h25, u_id] <;> rfl) (by simp only [s_sel2, if_neg h6, if_neg h16, if_neg h25, u_id] <;> rfl))
    · skip
      refine v_iconst (v := (-1)) dX4_sheep_19 (by decide) ?_
      exact v_iretM dX4_sheep_20 (by simp only [s_sel2, if_neg h6, if_pos h16] <;> rfl) (v_w2 (fun (z0 : Int32) (z1 : Nat → Int32) => ([(m0, .inr (4, [.int (nI hk), .int (nI ho), .int z0, .int fl, .int ai, .int rn, .int rf, .int rt, .ref (md 8), .ref (md 9), .ref (md 10), .ref (md 11), .ref (md 12), .ref (md 13), .ref (md 14), .ref (md 15), .ref (md 16), .ref (md 17), .ref (md 18), .ref (md 19), .ref (md 20), .ref (md 21), .ref (md 22), .int bu, .int (nI bn), .ref (md 25), .ref (md 26), .ref (md 27), .ref (md 28)])), (md 10, .inl (G.2.1, 6, .inl (pN pn))), (md 12, .inl (G.2.1, 24, .inl z1))] : va_W)) (by simp only [s_sel2, if_neg h6, if_pos h16, u_id] <;> rfl) (by simp only [s_sel2, if_neg h6, if_pos h16, u_id] <;> rfl))

set_option maxRecDepth 100000 in
set_option maxHeartbeats 4000000 in
theorem c_X4_right (l : Launch) (G : v_Cfg) (m0 : Nat) (md : Nat → Nat) (hk : Nat) (ho : Nat) (de : Nat) (fl : Int32) (ai : Int32) (rn : Int32) (rf : Int32) (rt : Int32) (bu : Int32) (bn : Nat) (x : Int32) (y : Int32) (z : Int32) (hde : de ≤ 90) : MuI l G yX4_right cX4_right 5 (some .int) 1 [.ref m0, .int x, .int y, .int z] [(m0, .inr (4, [.int (nI hk), .int (nI ho), .int (nI de), .int fl, .int ai, .int rn, .int rf, .int rt, .ref (md 8), .ref (md 9), .ref (md 10), .ref (md 11), .ref (md 12), .ref (md 13), .ref (md 14), .ref (md 15), .ref (md 16), .ref (md 17), .ref (md 18), .ref (md 19), .ref (md 20), .ref (md 21), .ref (md 22), .int bu, .int (nI bn), .ref (md 25), .ref (md 26), .ref (md 27), .ref (md 28)]))] [(m0, .inr (4, [.int (nI hk), .int (nI ho), .int (nI (s_selR (s_in x 0 1000) (s_in y 0 24) (s_in z 0 24) y z (s_fu de) de de (de + 1))), .int fl, .int ai, .int (s_selR (s_in x 0 1000) (s_in y 0 24) (s_in z 0 24) y z (s_fu de) rn rn x), .int (s_selR (s_in x 0 1000) (s_in y 0 24) (s_in z 0 24) y z (s_fu de) rf rf y), .int (s_selR (s_in x 0 1000) (s_in y 0 24) (s_in z 0 24) y z (s_fu de) rt rt z), .ref (md 8), .ref (md 9), .ref (md 10), .ref (md 11), .ref (md 12), .ref (md 13), .ref (md 14), .ref (md 15), .ref (md 16), .ref (md 17), .ref (md 18), .ref (md 19), .ref (md 20), .ref (md 21), .ref (md 22), .int bu, .int (nI bn), .ref (md 25), .ref (md 26), .ref (md 27), .ref (md 28)]))] (s_selR (s_in x 0 1000) (s_in y 0 24) (s_in z 0 24) y z (s_fu de) ((-1)) ((-3)) rn) := by
  refine MuI.of (own := RX4) (by decide) rfl (Nat.le_of_ble_eq_true rfl) (fun p e s m below meth c => ?_)
  refine v_iload_n dX4_right_0 rfl 1 rfl ?_
  refine v_iconst (v := 0) dX4_right_1 (by decide) ?_
  refine v_sipush (v := 1000) dX4_right_2 (by decide) ?_
  refine v_sRd (As := [.int x, .int 0, .int 1000]) (rest := []) (c_X4_in l G x 0 1000 ) YX4_in mX4_77 dX4_right_5 [] rfl rfl rfl (Nat.le_of_ble_eq_true rfl) (by decide) (by decide) ?_
  refine v_if_eq (tgt := 36) dX4_right_8 (by decide) (fun h8 => ?_) (fun h8 => ?_)
  · skip
    refine v_iconst (v := (-1)) dX4_right_36 (by decide) ?_
    exact v_iretM dX4_right_37 (by simp only [s_selR, if_pos h8] <;> rfl) (v_w4 (fun (z0 : Int32) (z1 : Int32) (z2 : Int32) (z3 : Int32) => ([(m0, .inr (4, [.int (nI hk), .int (nI ho), .int z0, .int fl, .int ai, .int z1, .int z2, .int z3, .ref (md 8), .ref (md 9), .ref (md 10), .ref (md 11), .ref (md 12), .ref (md 13), .ref (md 14), .ref (md 15), .ref (md 16), .ref (md 17), .ref (md 18), .ref (md 19), .ref (md 20), .ref (md 21), .ref (md 22), .int bu, .int (nI bn), .ref (md 25), .ref (md 26), .ref (md 27), .ref (md 28)]))] : va_W)) (by simp only [s_selR, if_pos h8, u_id] <;> rfl) (by simp only [s_selR, if_pos h8, u_id] <;> rfl) (by simp only [s_selR, if_pos h8, u_id] <;> rfl) (by simp only [s_selR, if_pos h8, u_id] <;> rfl))
  · skip
    refine v_iload_n dX4_right_11 rfl 2 rfl ?_
    refine v_iconst (v := 0) dX4_right_12 (by decide) ?_
    refine v_bipush (v := 24) dX4_right_13 (by decide) ?_
    refine v_sRd (As := [.int y, .int 0, .int 24]) (rest := []) (c_X4_in l G y 0 24 ) YX4_in mX4_77 dX4_right_15 [] rfl rfl rfl (Nat.le_of_ble_eq_true rfl) (by decide) (by decide) ?_
    refine v_if_eq (tgt := 36) dX4_right_18 (by decide) (fun h18 => ?_) (fun h18 => ?_)
    · skip
      refine v_iconst (v := (-1)) dX4_right_36 (by decide) ?_
      exact v_iretM dX4_right_37 (by simp only [s_selR, if_neg h8, if_pos h18] <;> rfl) (v_w4 (fun (z0 : Int32) (z1 : Int32) (z2 : Int32) (z3 : Int32) => ([(m0, .inr (4, [.int (nI hk), .int (nI ho), .int z0, .int fl, .int ai, .int z1, .int z2, .int z3, .ref (md 8), .ref (md 9), .ref (md 10), .ref (md 11), .ref (md 12), .ref (md 13), .ref (md 14), .ref (md 15), .ref (md 16), .ref (md 17), .ref (md 18), .ref (md 19), .ref (md 20), .ref (md 21), .ref (md 22), .int bu, .int (nI bn), .ref (md 25), .ref (md 26), .ref (md 27), .ref (md 28)]))] : va_W)) (by simp only [s_selR, if_neg h8, if_pos h18, u_id] <;> rfl) (by simp only [s_selR, if_neg h8, if_pos h18, u_id] <;> rfl) (by simp only [s_selR, if_neg h8, if_pos h18, u_id] <;> rfl) (by simp only [s_selR, if_neg h8, if_pos h18, u_id] <;> rfl))
    · skip
      refine v_iload_n dX4_right_21 rfl 3 rfl ?_
      refine v_iconst (v := 0) dX4_right_22 (by decide) ?_
      refine v_bipush (v := 24) dX4_right_23 (by decide) ?_
      refine v_sRd (As := [.int z, .int 0, .int 24]) (rest := []) (c_X4_in l G z 0 24 ) YX4_in mX4_77 dX4_right_25 [] rfl rfl rfl (Nat.le_of_ble_eq_true rfl) (by decide) (by decide) ?_
      refine v_if_eq (tgt := 36) dX4_right_28 (by decide) (fun h28 => ?_) (fun h28 => ?_)
      · skip
        refine v_iconst (v := (-1)) dX4_right_36 (by decide) ?_
        exact v_iretM dX4_right_37 (by simp only [s_selR, if_neg h8, if_neg h18, if_pos h28] <;> rfl) (v_w4 (fun (z0 : Int32) (z1 : Int32) (z2 : Int32) (z3 : Int32) => ([(m0, .inr (4, [.int (nI hk), .int (nI ho), .int z0, .int fl, .int ai, .int z1, .int z2, .int z3, .ref (md 8), .ref (md 9), .ref (md 10), .ref (md 11), .ref (md 12), .ref (md 13), .ref (md 14), .ref (md 15), .ref (md 16), .ref (md 17), .ref (md 18), .ref (md 19), .ref (md 20), .ref (md 21), .ref (md 22), .int bu, .int (nI bn), .ref (md 25), .ref (md 26), .ref (md 27), .ref (md 28)]))] : va_W)) (by simp only [s_selR, if_neg h8, if_neg h18, if_pos h28, u_id] <;> rfl) (by simp only [s_selR, if_neg h8, if_neg h18, if_pos h28, u_id] <;> rfl) (by simp only [s_selR, if_neg h8, if_neg h18, if_pos h28, u_id] <;> rfl) (by simp only [s_selR, if_neg h8, if_neg h18, if_pos h28, u_id] <;> rfl))
      · skip
        refine v_iload_n dX4_right_31 rfl 2 rfl ?_
        refine v_iload_n dX4_right_32 rfl 3 rfl ?_
        refine v_icmp_lt (tgt := 38) dX4_right_33 (by decide) (fun h33 => ?_) (fun h33 => ?_)
        · skip
          refine v_aload_n dX4_right_38 rfl 0 rfl ?_
          refine v_vRd (As := []) (rest := []) (c_X4_isFull l G m0 md hk ho de fl ai rn rf rt bu bn (by omega)) YX4_isFull mX4_84 dX4_right_39 ciX4 0 rfl [0] rfl rfl rfl (Nat.le_of_ble_eq_true rfl) (by decide) (by decide) ?_
          refine v_if_eq (tgt := 48) dX4_right_42 (by decide) (fun h42 => ?_) (fun h42 => ?_)
          · skip
            refine v_aload_n dX4_right_48 rfl 0 rfl ?_
            refine v_dup dX4_right_49 rfl ?_
            refine v_get fX4_81 dX4_right_50 0 rfl rfl ?_
            refine v_iconst (v := 1) dX4_right_53 (by decide) ?_
            refine v_iadd dX4_right_54 ?_
            refine v_eqi (nI (de + 1)) (nI_1 de) ?_
            refine v_puti (ws' := [(m0, .inr (4, [.int (nI hk), .int (nI ho), .int (nI (de + 1)), .int fl, .int ai, .int rn, .int rf, .int rt, .ref (md 8), .ref (md 9), .ref (md 10), .ref (md 11), .ref (md 12), .ref (md 13), .ref (md 14), .ref (md 15), .ref (md 16), .ref (md 17), .ref (md 18), .ref (md 19), .ref (md 20), .ref (md 21), .ref (md 22), .int bu, .int (nI bn), .ref (md 25), .ref (md 26), .ref (md 27), .ref (md 28)]))]) pX4_81 dX4_right_55 0 rfl (Nat.le_of_ble_eq_true rfl) rfl ?_
            refine v_aload_n dX4_right_58 rfl 0 rfl ?_
            refine v_get fX4_96 dX4_right_59 0 rfl rfl ?_
            refine v_istore (lv' := [(4, .int rn), (0, .ref m0), (1, .int x), (2, .int y), (3, .int z)]) dX4_right_62 (by decide) rfl ?_
            refine v_aload_n dX4_right_64 rfl 1 rfl ?_
            refine v_iload_n dX4_right_65 rfl 2 rfl ?_
            refine v_puti (ws' := [(m0, .inr (4, [.int (nI hk), .int (nI ho), .int (nI (de + 1)), .int fl, .int ai, .int x, .int rf, .int rt, .ref (md 8), .ref (md 9), .ref (md 10), .ref (md 11), .ref (md 12), .ref (md 13), .ref (md 14), .ref (md 15), .ref (md 16), .ref (md 17), .ref (md 18), .ref (md 19), .ref (md 20), .ref (md 21), .ref (md 22), .int bu, .int (nI bn), .ref (md 25), .ref (md 26), .ref (md 27), .ref (md 28)]))]) pX4_96 dX4_right_66 0 rfl (Nat.le_of_ble_eq_true rfl) rfl ?_
            refine v_aload_n dX4_right_69 rfl 1 rfl ?_
            refine v_iload_n dX4_right_70 rfl 3 rfl ?_
            refine v_puti (ws' := [(m0, .inr (4, [.int (nI hk), .int (nI ho), .int (nI (de + 1)), .int fl, .int ai, .int x, .int y, .int rt, .ref (md 8), .ref (md 9), .ref (md 10), .ref (md 11), .ref (md 12), .ref (md 13), .ref (md 14), .ref (md 15), .ref (md 16), .ref (md 17), .ref (md 18), .ref (md 19), .ref (md 20), .ref (md 21), .ref (md 22), .int bu, .int (nI bn), .ref (md 25), .ref (md 26), .ref (md 27), .ref (md 28)]))]) pX4_99 dX4_right_71 0 rfl (Nat.le_of_ble_eq_true rfl) rfl ?_
            refine v_aload_n dX4_right_74 rfl 1 rfl ?_
            refine v_iload_n dX4_right_75 rfl 4 rfl ?_
            refine v_puti (ws' := [(m0, .inr (4, [.int (nI hk), .int (nI ho), .int (nI (de + 1)), .int fl, .int ai, .int x, .int y, .int z, .ref (md 8), .ref (md 9), .ref (md 10), .ref (md 11), .ref (md 12), .ref (md 13), .ref (md 14), .ref (md 15), .ref (md 16), .ref (md 17), .ref (md 18), .ref (md 19), .ref (md 20), .ref (md 21), .ref (md 22), .int bu, .int (nI bn), .ref (md 25), .ref (md 26), .ref (md 27), .ref (md 28)]))]) pX4_102 dX4_right_76 0 rfl (Nat.le_of_ble_eq_true rfl) rfl ?_
            refine v_iload dX4_right_79 0 rfl ?_
            exact v_iretM dX4_right_81 (by simp only [s_selR, if_neg h8, if_neg h18, if_neg h28, if_pos h33, if_pos h42] <;> rfl) (v_w4 (fun (z0 : Int32) (z1 : Int32) (z2 : Int32) (z3 : Int32) => ([(m0, .inr (4, [.int (nI hk), .int (nI ho), .int z0, .int fl, .int ai, .int z1, .int z2, .int z3, .ref (md 8), .ref (md 9), .ref (md 10), .ref (md 11), .ref (md 12), .ref (md 13), .ref (md 14), .ref (md 15), .ref (md 16), .ref (md 17), .ref (md 18), .ref (md 19), .ref (md 20), .ref (md 21), .ref (md 22), .int bu, .int (nI bn), .ref (md 25), .ref (md 26), .ref (md 27), .ref (md 28)]))] : va_W)) (by simp only [s_selR, if_neg h8, if_neg h18, if_neg h28, if_pos h33, if_pos h42, u_id] <;> rfl) (by simp only [s_selR, if_neg h8, if_neg h18, if_neg h28, if_pos h33, if_pos h42, u_id] <;> rfl) (by simp only [s_selR, if_neg h8, if_neg h18, if_neg h28, if_pos h33, if_pos h42, u_id] <;> rfl) (by simp only [s_selR, if_neg h8, if_neg h18, if_neg h28, if_pos h33, if_pos h42, u_id] <;> rfl))
          · skip
            refine v_bipush (v := (-3)) dX4_right_45 (by decide) ?_
            exact v_iretM dX4_right_47 (by simp only [s_selR, if_neg h8, if_neg h18, if_neg h28, if_pos h33, if_neg h42] <;> rfl) (v_w4 (fun (z0 : Int32) (z1 : Int32) (z2 : Int32) (z3 : Int32) => ([(m0, .inr (4, [.int (nI hk), .int (nI ho), .int z0, .int fl, .int ai, .int z1, .int z2, .int z3, .ref (md 8), .ref (md 9), .ref (md 10), .ref (md 11), .ref (md 12), .ref (md 13), .ref (md 14), .ref (md 15), .ref (md 16), .ref (md 17), .ref (md 18), .ref (md 19), .ref (md 20), .ref (md 21), .ref (md 22), .int bu, .int (nI bn), .ref (md 25), .ref (md 26), .ref (md 27), .ref (md 28)]))] : va_W)) (by simp only [s_selR, if_neg h8, if_neg h18, if_neg h28, if_pos h33, if_neg h42, u_id] <;> rfl) (by simp only [s_selR, if_neg h8, if_neg h18, if_neg h28, if_pos h33, if_neg h42, u_id] <;> rfl) (by simp only [s_selR, if_neg h8, if_neg h18, if_neg h28, if_pos h33, if_neg h42, u_id] <;> rfl) (by simp only [s_selR, if_neg h8, if_neg h18, if_neg h28, if_pos h33, if_neg h42, u_id] <;> rfl))
        · skip
          refine v_iconst (v := (-1)) dX4_right_36 (by decide) ?_
          exact v_iretM dX4_right_37 (by simp only [s_selR, if_neg h8, if_neg h18, if_neg h28, if_neg h33] <;> rfl) (v_w4 (fun (z0 : Int32) (z1 : Int32) (z2 : Int32) (z3 : Int32) => ([(m0, .inr (4, [.int (nI hk), .int (nI ho), .int z0, .int fl, .int ai, .int z1, .int z2, .int z3, .ref (md 8), .ref (md 9), .ref (md 10), .ref (md 11), .ref (md 12), .ref (md 13), .ref (md 14), .ref (md 15), .ref (md 16), .ref (md 17), .ref (md 18), .ref (md 19), .ref (md 20), .ref (md 21), .ref (md 22), .int bu, .int (nI bn), .ref (md 25), .ref (md 26), .ref (md 27), .ref (md 28)]))] : va_W)) (by simp only [s_selR, if_neg h8, if_neg h18, if_neg h28, if_neg h33, u_id] <;> rfl) (by simp only [s_selR, if_neg h8, if_neg h18, if_neg h28, if_neg h33, u_id] <;> rfl) (by simp only [s_selR, if_neg h8, if_neg h18, if_neg h28, if_neg h33, u_id] <;> rfl) (by simp only [s_selR, if_neg h8, if_neg h18, if_neg h28, if_neg h33, u_id] <;> rfl))

set_option maxRecDepth 100000 in
set_option maxHeartbeats 4000000 in
theorem c_X4_hatch (l : Launch) (G : v_Cfg) (m0 : Nat) (md : Nat → Nat) (hk : Nat) (ho : Nat) (de : Nat) (fl : Int32) (ai : Int32) (rn : Int32) (rf : Int32) (rt : Int32) (bu : Int32) (bn : Nat) (wi : Nat → Int32) (fn : Nat → Nat) (pn : Nat → Nat) (x : Int32) (y : Int32) (z : Int32) (hde : de ≤ 90) (hk6 : hk ≤ 6) : MuI l G yX4_hatch cX4_hatch 4 (some .int) 1 [.ref m0, .int x, .int y, .int z] [(m0, .inr (4, [.int (nI hk), .int (nI ho), .int (nI de), .int fl, .int ai, .int rn, .int rf, .int rt, .ref (md 8), .ref (md 9), .ref (md 10), .ref (md 11), .ref (md 12), .ref (md 13), .ref (md 14), .ref (md 15), .ref (md 16), .ref (md 17), .ref (md 18), .ref (md 19), .ref (md 20), .ref (md 21), .ref (md 22), .int bu, .int (nI bn), .ref (md 25), .ref (md 26), .ref (md 27), .ref (md 28)])), (md 8, .inl (G.2.1, 6, .inl (pN fn))), (md 9, .inl (G.2.1, 6, .inl wi)), (md 10, .inl (G.2.1, 6, .inl (pN pn)))] [(m0, .inr (4, [.int (nI (s_selH (s_in x 0 3) (s_in y 1 200) (s_in z 1 4) hk (s_fu de) hk hk (hk + 1))), .int (nI ho), .int (nI (s_selH (s_in x 0 3) (s_in y 1 200) (s_in z 1 4) hk (s_fu de) de de (de + 1))), .int fl, .int ai, .int rn, .int rf, .int rt, .ref (md 8), .ref (md 9), .ref (md 10), .ref (md 11), .ref (md 12), .ref (md 13), .ref (md 14), .ref (md 15), .ref (md 16), .ref (md 17), .ref (md 18), .ref (md 19), .ref (md 20), .ref (md 21), .ref (md 22), .int bu, .int (nI bn), .ref (md 25), .ref (md 26), .ref (md 27), .ref (md 28)])), (md 8, .inl (G.2.1, 6, .inl (pN (s_selH (s_in x 0 3) (s_in y 1 200) (s_in z 1 4) hk (s_fu de) fn fn (updN fn hk x.toNatClampNeg))))), (md 9, .inl (G.2.1, 6, .inl (s_selH (s_in x 0 3) (s_in y 1 200) (s_in z 1 4) hk (s_fu de) wi wi (upd wi hk y)))), (md 10, .inl (G.2.1, 6, .inl (pN (s_selH (s_in x 0 3) (s_in y 1 200) (s_in z 1 4) hk (s_fu de) pn pn (updN pn hk z.toNatClampNeg)))))] (s_selH (s_in x 0 3) (s_in y 1 200) (s_in z 1 4) hk (s_fu de) ((-1)) ((-3)) (nI hk)) := by
  refine MuI.of (own := RX4) (by decide) rfl (Nat.le_of_ble_eq_true rfl) (fun p e s m below meth c => ?_)
  refine v_iload_n dX4_hatch_0 rfl 1 rfl ?_
  refine v_iconst (v := 0) dX4_hatch_1 (by decide) ?_
  refine v_iconst (v := 3) dX4_hatch_2 (by decide) ?_
  refine v_sRd (As := [.int x, .int 0, .int 3]) (rest := []) (c_X4_in l G x 0 3 ) YX4_in mX4_77 dX4_hatch_3 [] rfl rfl rfl (Nat.le_of_ble_eq_true rfl) (by decide) (by decide) ?_
  refine v_if_eq (tgt := 29) dX4_hatch_6 (by decide) (fun h6 => ?_) (fun h6 => ?_)
  · skip
    refine v_iconst (v := (-1)) dX4_hatch_29 (by decide) ?_
    exact v_iretM dX4_hatch_30 (by simp only [s_selH, pN_upd, if_pos h6] <;> rfl) (v_w5 (fun (z0 : Int32) (z1 : Int32) (z2 : Nat → Int32) (z3 : Nat → Int32) (z4 : Nat → Int32) => ([(m0, .inr (4, [.int z0, .int (nI ho), .int z1, .int fl, .int ai, .int rn, .int rf, .int rt, .ref (md 8), .ref (md 9), .ref (md 10), .ref (md 11), .ref (md 12), .ref (md 13), .ref (md 14), .ref (md 15), .ref (md 16), .ref (md 17), .ref (md 18), .ref (md 19), .ref (md 20), .ref (md 21), .ref (md 22), .int bu, .int (nI bn), .ref (md 25), .ref (md 26), .ref (md 27), .ref (md 28)])), (md 8, .inl (G.2.1, 6, .inl z2)), (md 9, .inl (G.2.1, 6, .inl z3)), (md 10, .inl (G.2.1, 6, .inl z4))] : va_W)) (by simp only [s_selH, pN_upd, if_pos h6, u_id] <;> rfl) (by simp only [s_selH, pN_upd, if_pos h6, u_id] <;> rfl) (by simp only [s_selH, pN_upd, if_pos h6, u_id] <;> rfl) (by simp only [s_selH, pN_upd, if_pos h6, u_id] <;> rfl) (by simp only [s_selH, pN_upd, if_pos h6, u_id] <;> rfl))
  · skip
    refine v_iload_n dX4_hatch_9 rfl 2 rfl ?_
    refine v_iconst (v := 1) dX4_hatch_10 (by decide) ?_
    refine v_sipush (v := 200) dX4_hatch_11 (by decide) ?_
    refine v_sRd (As := [.int y, .int 1, .int 200]) (rest := []) (c_X4_in l G y 1 200 ) YX4_in mX4_77 dX4_hatch_14 [] rfl rfl rfl (Nat.le_of_ble_eq_true rfl) (by decide) (by decide) ?_
    refine v_if_eq (tgt := 29) dX4_hatch_17 (by decide) (fun h17 => ?_) (fun h17 => ?_)
    · skip
      refine v_iconst (v := (-1)) dX4_hatch_29 (by decide) ?_
      exact v_iretM dX4_hatch_30 (by simp only [s_selH, pN_upd, if_neg h6, if_pos h17] <;> rfl) (v_w5 (fun (z0 : Int32) (z1 : Int32) (z2 : Nat → Int32) (z3 : Nat → Int32) (z4 : Nat → Int32) => ([(m0, .inr (4, [.int z0, .int (nI ho), .int z1, .int fl, .int ai, .int rn, .int rf, .int rt, .ref (md 8), .ref (md 9), .ref (md 10), .ref (md 11), .ref (md 12), .ref (md 13), .ref (md 14), .ref (md 15), .ref (md 16), .ref (md 17), .ref (md 18), .ref (md 19), .ref (md 20), .ref (md 21), .ref (md 22), .int bu, .int (nI bn), .ref (md 25), .ref (md 26), .ref (md 27), .ref (md 28)])), (md 8, .inl (G.2.1, 6, .inl z2)), (md 9, .inl (G.2.1, 6, .inl z3)), (md 10, .inl (G.2.1, 6, .inl z4))] : va_W)) (by simp only [s_selH, pN_upd, if_neg h6, if_pos h17, u_id] <;> rfl) (by simp only [s_selH, pN_upd, if_neg h6, if_pos h17, u_id] <;> rfl) (by simp only [s_selH, pN_upd, if_neg h6, if_pos h17, u_id] <;> rfl) (by simp only [s_selH, pN_upd, if_neg h6, if_pos h17, u_id] <;> rfl) (by simp only [s_selH, pN_upd, if_neg h6, if_pos h17, u_id] <;> rfl))
    · skip
      refine v_iload_n dX4_hatch_20 rfl 3 rfl ?_
      refine v_iconst (v := 1) dX4_hatch_21 (by decide) ?_
      refine v_iconst (v := 4) dX4_hatch_22 (by decide) ?_
      refine v_sRd (As := [.int z, .int 1, .int 4]) (rest := []) (c_X4_in l G z 1 4 ) YX4_in mX4_77 dX4_hatch_23 [] rfl rfl rfl (Nat.le_of_ble_eq_true rfl) (by decide) (by decide) ?_
      refine v_if_ne (tgt := 31) dX4_hatch_26 (by decide) (fun h26 => ?_) (fun h26 => ?_)
      · skip
        refine v_aload_n dX4_hatch_31 rfl 0 rfl ?_
        refine v_get fX4_74 dX4_hatch_32 0 rfl rfl ?_
        refine v_bipush (v := nI 6) dX4_hatch_35 (by decide) ?_
        by_cases n37 : 6 ≤ hk
        · refine v_icmp_eq (tgt := 47) dX4_hatch_37 (by decide) (fun h37 => ?_) (fun h37 => absurd ((nI_eq (by omega) (by omega)).mpr (by omega)) h37)
          refine v_bipush (v := (-3)) dX4_hatch_47 (by decide) ?_
          exact v_iretM dX4_hatch_49 (by simp only [s_selH, pN_upd, if_neg h6, if_neg h17, if_neg h26, if_pos n37] <;> rfl) (v_w5 (fun (z0 : Int32) (z1 : Int32) (z2 : Nat → Int32) (z3 : Nat → Int32) (z4 : Nat → Int32) => ([(m0, .inr (4, [.int z0, .int (nI ho), .int z1, .int fl, .int ai, .int rn, .int rf, .int rt, .ref (md 8), .ref (md 9), .ref (md 10), .ref (md 11), .ref (md 12), .ref (md 13), .ref (md 14), .ref (md 15), .ref (md 16), .ref (md 17), .ref (md 18), .ref (md 19), .ref (md 20), .ref (md 21), .ref (md 22), .int bu, .int (nI bn), .ref (md 25), .ref (md 26), .ref (md 27), .ref (md 28)])), (md 8, .inl (G.2.1, 6, .inl z2)), (md 9, .inl (G.2.1, 6, .inl z3)), (md 10, .inl (G.2.1, 6, .inl z4))] : va_W)) (by simp only [s_selH, pN_upd, if_neg h6, if_neg h17, if_neg h26, if_pos n37, u_id] <;> rfl) (by simp only [s_selH, pN_upd, if_neg h6, if_neg h17, if_neg h26, if_pos n37, u_id] <;> rfl) (by simp only [s_selH, pN_upd, if_neg h6, if_neg h17, if_neg h26, if_pos n37, u_id] <;> rfl) (by simp only [s_selH, pN_upd, if_neg h6, if_neg h17, if_neg h26, if_pos n37, u_id] <;> rfl) (by simp only [s_selH, pN_upd, if_neg h6, if_neg h17, if_neg h26, if_pos n37, u_id] <;> rfl))
        · refine v_icmp_eq (tgt := 47) dX4_hatch_37 (by decide) (fun h37 => absurd h37 (fun q => absurd ((nI_eq (by omega) (by omega)).mp q) (by omega))) (fun h37 => ?_)
          refine v_aload_n dX4_hatch_40 rfl 0 rfl ?_
          refine v_vRd (As := []) (rest := []) (c_X4_isFull l G m0 md hk ho de fl ai rn rf rt bu bn (by omega)) YX4_isFull mX4_84 dX4_hatch_41 ciX4 0 rfl [0] rfl rfl rfl (Nat.le_of_ble_eq_true rfl) (by decide) (by decide) ?_
          refine v_if_eq (tgt := 50) dX4_hatch_44 (by decide) (fun h44 => ?_) (fun h44 => ?_)
          · skip
            refine v_aload_n dX4_hatch_50 rfl 0 rfl ?_
            refine v_get fX4_16 dX4_hatch_51 0 rfl rfl ?_
            refine v_aload_n dX4_hatch_54 rfl 0 rfl ?_
            refine v_get fX4_74 dX4_hatch_55 0 rfl rfl ?_
            refine v_iload_n dX4_hatch_58 rfl 1 rfl ?_
            refine v_stk (st' := [.int (nI x.toNatClampNeg), .int (nI hk), .ref (md 8)]) (v_s1 (fun (z0 : Int32) => ([.int z0, .int (nI hk), .ref (md 8)] : List Value)) ((s_in_ix (a := 0) (b := 3) h6 rfl rfl (by decide) (by decide)).1)) ?_
            refine v_iast (ws' := [(m0, .inr (4, [.int (nI hk), .int (nI ho), .int (nI de), .int fl, .int ai, .int rn, .int rf, .int rt, .ref (md 8), .ref (md 9), .ref (md 10), .ref (md 11), .ref (md 12), .ref (md 13), .ref (md 14), .ref (md 15), .ref (md 16), .ref (md 17), .ref (md 18), .ref (md 19), .ref (md 20), .ref (md 21), .ref (md 22), .int bu, .int (nI bn), .ref (md 25), .ref (md 26), .ref (md 27), .ref (md 28)])), (md 8, .inl (G.2.1, 6, .inl (upd (pN fn) hk (nI x.toNatClampNeg)))), (md 9, .inl (G.2.1, 6, .inl wi)), (md 10, .inl (G.2.1, 6, .inl (pN pn)))]) dX4_hatch_59 1 rfl hk rfl (by omega) (by decide) rfl ?_
            refine v_aload_n dX4_hatch_60 rfl 0 rfl ?_
            refine v_get fX4_20 dX4_hatch_61 0 rfl rfl ?_
            refine v_aload_n dX4_hatch_64 rfl 0 rfl ?_
            refine v_get fX4_74 dX4_hatch_65 0 rfl rfl ?_
            refine v_iload_n dX4_hatch_68 rfl 2 rfl ?_
            refine v_iast (ws' := [(m0, .inr (4, [.int (nI hk), .int (nI ho), .int (nI de), .int fl, .int ai, .int rn, .int rf, .int rt, .ref (md 8), .ref (md 9), .ref (md 10), .ref (md 11), .ref (md 12), .ref (md 13), .ref (md 14), .ref (md 15), .ref (md 16), .ref (md 17), .ref (md 18), .ref (md 19), .ref (md 20), .ref (md 21), .ref (md 22), .int bu, .int (nI bn), .ref (md 25), .ref (md 26), .ref (md 27), .ref (md 28)])), (md 8, .inl (G.2.1, 6, .inl (upd (pN fn) hk (nI x.toNatClampNeg)))), (md 9, .inl (G.2.1, 6, .inl (upd wi hk y))), (md 10, .inl (G.2.1, 6, .inl (pN pn)))]) dX4_hatch_69 2 rfl hk rfl (by omega) (by decide) rfl ?_
            refine v_aload_n dX4_hatch_70 rfl 0 rfl ?_
            refine v_get fX4_23 dX4_hatch_71 0 rfl rfl ?_
            refine v_aload_n dX4_hatch_74 rfl 0 rfl ?_
            refine v_get fX4_74 dX4_hatch_75 0 rfl rfl ?_
            refine v_iload_n dX4_hatch_78 rfl 3 rfl ?_
            refine v_stk (st' := [.int (nI z.toNatClampNeg), .int (nI hk), .ref (md 10)]) (v_s1 (fun (z0 : Int32) => ([.int z0, .int (nI hk), .ref (md 10)] : List Value)) ((s_in_ix (a := 1) (b := 4) h26 rfl rfl (by decide) (by decide)).1)) ?_
            refine v_iast (ws' := [(m0, .inr (4, [.int (nI hk), .int (nI ho), .int (nI de), .int fl, .int ai, .int rn, .int rf, .int rt, .ref (md 8), .ref (md 9), .ref (md 10), .ref (md 11), .ref (md 12), .ref (md 13), .ref (md 14), .ref (md 15), .ref (md 16), .ref (md 17), .ref (md 18), .ref (md 19), .ref (md 20), .ref (md 21), .ref (md 22), .int bu, .int (nI bn), .ref (md 25), .ref (md 26), .ref (md 27), .ref (md 28)])), (md 8, .inl (G.2.1, 6, .inl (upd (pN fn) hk (nI x.toNatClampNeg)))), (md 9, .inl (G.2.1, 6, .inl (upd wi hk y))), (md 10, .inl (G.2.1, 6, .inl (upd (pN pn) hk (nI z.toNatClampNeg))))]) dX4_hatch_79 3 rfl hk rfl (by omega) (by decide) rfl ?_
            refine v_aload_n dX4_hatch_80 rfl 0 rfl ?_
            refine v_dup dX4_hatch_81 rfl ?_
            refine v_get fX4_81 dX4_hatch_82 0 rfl rfl ?_
            refine v_iconst (v := 1) dX4_hatch_85 (by decide) ?_
            refine v_iadd dX4_hatch_86 ?_
            refine v_eqi (nI (de + 1)) (nI_1 de) ?_
            refine v_puti (ws' := [(m0, .inr (4, [.int (nI hk), .int (nI ho), .int (nI (de + 1)), .int fl, .int ai, .int rn, .int rf, .int rt, .ref (md 8), .ref (md 9), .ref (md 10), .ref (md 11), .ref (md 12), .ref (md 13), .ref (md 14), .ref (md 15), .ref (md 16), .ref (md 17), .ref (md 18), .ref (md 19), .ref (md 20), .ref (md 21), .ref (md 22), .int bu, .int (nI bn), .ref (md 25), .ref (md 26), .ref (md 27), .ref (md 28)])), (md 8, .inl (G.2.1, 6, .inl (upd (pN fn) hk (nI x.toNatClampNeg)))), (md 9, .inl (G.2.1, 6, .inl (upd wi hk y))), (md 10, .inl (G.2.1, 6, .inl (upd (pN pn) hk (nI z.toNatClampNeg))))]) pX4_81 dX4_hatch_87 0 rfl (Nat.le_of_ble_eq_true rfl) rfl ?_
            refine v_aload_n dX4_hatch_90 rfl 0 rfl ?_
            refine v_dup dX4_hatch_91 rfl ?_
            refine v_get fX4_74 dX4_hatch_92 0 rfl rfl ?_
            refine v_iconst (v := 1) dX4_hatch_95 (by decide) ?_
            refine v_iadd dX4_hatch_96 ?_
            refine v_eqi (nI (hk + 1)) (nI_1 hk) ?_
            refine v_puti (ws' := [(m0, .inr (4, [.int (nI (hk + 1)), .int (nI ho), .int (nI (de + 1)), .int fl, .int ai, .int rn, .int rf, .int rt, .ref (md 8), .ref (md 9), .ref (md 10), .ref (md 11), .ref (md 12), .ref (md 13), .ref (md 14), .ref (md 15), .ref (md 16), .ref (md 17), .ref (md 18), .ref (md 19), .ref (md 20), .ref (md 21), .ref (md 22), .int bu, .int (nI bn), .ref (md 25), .ref (md 26), .ref (md 27), .ref (md 28)])), (md 8, .inl (G.2.1, 6, .inl (upd (pN fn) hk (nI x.toNatClampNeg)))), (md 9, .inl (G.2.1, 6, .inl (upd wi hk y))), (md 10, .inl (G.2.1, 6, .inl (upd (pN pn) hk (nI z.toNatClampNeg))))]) pX4_74 dX4_hatch_97 0 rfl (Nat.le_of_ble_eq_true rfl) rfl ?_
            refine v_aload_n dX4_hatch_100 rfl 0 rfl ?_
            refine v_get fX4_74 dX4_hatch_101 0 rfl rfl ?_
            refine v_iconst (v := 1) dX4_hatch_104 (by decide) ?_
            refine v_isub dX4_hatch_105 ?_
            refine v_eqi (nI hk) (nI_pred hk) ?_
            exact v_iretM dX4_hatch_106 (by simp only [s_selH, pN_upd, if_neg h6, if_neg h17, if_neg h26, if_neg n37, if_pos h44] <;> rfl) (v_w5 (fun (z0 : Int32) (z1 : Int32) (z2 : Nat → Int32) (z3 : Nat → Int32) (z4 : Nat → Int32) => ([(m0, .inr (4, [.int z0, .int (nI ho), .int z1, .int fl, .int ai, .int rn, .int rf, .int rt, .ref (md 8), .ref (md 9), .ref (md 10), .ref (md 11), .ref (md 12), .ref (md 13), .ref (md 14), .ref (md 15), .ref (md 16), .ref (md 17), .ref (md 18), .ref (md 19), .ref (md 20), .ref (md 21), .ref (md 22), .int bu, .int (nI bn), .ref (md 25), .ref (md 26), .ref (md 27), .ref (md 28)])), (md 8, .inl (G.2.1, 6, .inl z2)), (md 9, .inl (G.2.1, 6, .inl z3)), (md 10, .inl (G.2.1, 6, .inl z4))] : va_W)) (by simp only [s_selH, pN_upd, if_neg h6, if_neg h17, if_neg h26, if_neg n37, if_pos h44, u_id] <;> rfl) (by simp only [s_selH, pN_upd, if_neg h6, if_neg h17, if_neg h26, if_neg n37, if_pos h44, u_id] <;> rfl) (by simp only [s_selH, pN_upd, if_neg h6, if_neg h17, if_neg h26, if_neg n37, if_pos h44, u_id] <;> rfl) (by simp only [s_selH, pN_upd, if_neg h6, if_neg h17, if_neg h26, if_neg n37, if_pos h44, u_id] <;> rfl) (by simp only [s_selH, pN_upd, if_neg h6, if_neg h17, if_neg h26, if_neg n37, if_pos h44, u_id] <;> rfl))
          · skip
            refine v_bipush (v := (-3)) dX4_hatch_47 (by decide) ?_
            exact v_iretM dX4_hatch_49 (by simp only [s_selH, pN_upd, if_neg h6, if_neg h17, if_neg h26, if_neg n37, if_neg h44] <;> rfl) (v_w5 (fun (z0 : Int32) (z1 : Int32) (z2 : Nat → Int32) (z3 : Nat → Int32) (z4 : Nat → Int32) => ([(m0, .inr (4, [.int z0, .int (nI ho), .int z1, .int fl, .int ai, .int rn, .int rf, .int rt, .ref (md 8), .ref (md 9), .ref (md 10), .ref (md 11), .ref (md 12), .ref (md 13), .ref (md 14), .ref (md 15), .ref (md 16), .ref (md 17), .ref (md 18), .ref (md 19), .ref (md 20), .ref (md 21), .ref (md 22), .int bu, .int (nI bn), .ref (md 25), .ref (md 26), .ref (md 27), .ref (md 28)])), (md 8, .inl (G.2.1, 6, .inl z2)), (md 9, .inl (G.2.1, 6, .inl z3)), (md 10, .inl (G.2.1, 6, .inl z4))] : va_W)) (by simp only [s_selH, pN_upd, if_neg h6, if_neg h17, if_neg h26, if_neg n37, if_neg h44, u_id] <;> rfl) (by simp only [s_selH, pN_upd, if_neg h6, if_neg h17, if_neg h26, if_neg n37, if_neg h44, u_id] <;> rfl) (by simp only [s_selH, pN_upd, if_neg h6, if_neg h17, if_neg h26, if_neg n37, if_neg h44, u_id] <;> rfl) (by simp only [s_selH, pN_upd, if_neg h6, if_neg h17, if_neg h26, if_neg n37, if_neg h44, u_id] <;> rfl) (by simp only [s_selH, pN_upd, if_neg h6, if_neg h17, if_neg h26, if_neg n37, if_neg h44, u_id] <;> rfl))
      · skip
        refine v_iconst (v := (-1)) dX4_hatch_29 (by decide) ?_
        exact v_iretM dX4_hatch_30 (by simp only [s_selH, pN_upd, if_neg h6, if_neg h17, if_pos h26] <;> rfl) (v_w5 (fun (z0 : Int32) (z1 : Int32) (z2 : Nat → Int32) (z3 : Nat → Int32) (z4 : Nat → Int32) => ([(m0, .inr (4, [.int z0, .int (nI ho), .int z1, .int fl, .int ai, .int rn, .int rf, .int rt, .ref (md 8), .ref (md 9), .ref (md 10), .ref (md 11), .ref (md 12), .ref (md 13), .ref (md 14), .ref (md 15), .ref (md 16), .ref (md 17), .ref (md 18), .ref (md 19), .ref (md 20), .ref (md 21), .ref (md 22), .int bu, .int (nI bn), .ref (md 25), .ref (md 26), .ref (md 27), .ref (md 28)])), (md 8, .inl (G.2.1, 6, .inl z2)), (md 9, .inl (G.2.1, 6, .inl z3)), (md 10, .inl (G.2.1, 6, .inl z4))] : va_W)) (by simp only [s_selH, pN_upd, if_neg h6, if_neg h17, if_pos h26, u_id] <;> rfl) (by simp only [s_selH, pN_upd, if_neg h6, if_neg h17, if_pos h26, u_id] <;> rfl) (by simp only [s_selH, pN_upd, if_neg h6, if_neg h17, if_pos h26, u_id] <;> rfl) (by simp only [s_selH, pN_upd, if_neg h6, if_neg h17, if_pos h26, u_id] <;> rfl) (by simp only [s_selH, pN_upd, if_neg h6, if_neg h17, if_pos h26, u_id] <;> rfl))

set_option maxRecDepth 100000 in
set_option maxHeartbeats 4000000 in
theorem c_X4_dig (l : Launch) (G : v_Cfg) (m0 : Nat) (md : Nat → Nat) (hk : Nat) (ho : Nat) (de : Nat) (fl : Int32) (ai : Int32) (rn : Int32) (rf : Int32) (rt : Int32) (bu : Int32) (bn : Nat) (mca : Nat → Nat → Int32) (x : Int32) (hde : de ≤ 90) (hk6 : hk ≤ 6) : MuI l G yX4_dig cX4_dig 4 (some .int) 2 [.ref m0, .int x] [(m0, .inr (4, [.int (nI hk), .int (nI ho), .int (nI de), .int fl, .int ai, .int rn, .int rf, .int rt, .ref (md 8), .ref (md 9), .ref (md 10), .ref (md 11), .ref (md 12), .ref (md 13), .ref (md 14), .ref (md 15), .ref (md 16), .ref (md 17), .ref (md 18), .ref (md 19), .ref (md 20), .ref (md 21), .ref (md 22), .int bu, .int (nI bn), .ref (md 25), .ref (md 26), .ref (md 27), .ref (md 28)])), (md 13, .inl (G.2.1, 42, .inl (fl6 mca)))] [(m0, .inr (4, [.int (nI hk), .int (nI ho), .int (nI (s_sel (s_ish x (nI hk)) (s_fu de) de de (de + 1))), .int fl, .int ai, .int rn, .int rf, .int rt, .ref (md 8), .ref (md 9), .ref (md 10), .ref (md 11), .ref (md 12), .ref (md 13), .ref (md 14), .ref (md 15), .ref (md 16), .ref (md 17), .ref (md 18), .ref (md 19), .ref (md 20), .ref (md 21), .ref (md 22), .int bu, .int (nI bn), .ref (md 25), .ref (md 26), .ref (md 27), .ref (md 28)])), (md 13, .inl (G.2.1, 42, .inl (fl6 (s_sel (s_ish x (nI hk)) (s_fu de) mca mca (fun s => upd (mca s) x.toNatClampNeg 0)))))] (s_sel (s_ish x (nI hk)) (s_fu de) ((-1)) ((-3)) (mca 0 x.toNatClampNeg / 100)) := by
  refine MuI.of (own := RX4) (by decide) rfl (Nat.le_of_ble_eq_true rfl) (fun p e s m below meth c => ?_)
  refine v_aload_n dX4_dig_0 rfl 0 rfl ?_
  refine v_iload_n dX4_dig_1 rfl 1 rfl ?_
  refine v_vRd (As := [.int x]) (rest := []) (c_X4_isHatch l G m0 md hk ho de fl ai rn rf rt bu bn x hk6) YX4_isHatch mX4_88 dX4_dig_2 ciX4 0 rfl [0] rfl rfl rfl (Nat.le_of_ble_eq_true rfl) (by decide) (by decide) ?_
  refine v_if_ne (tgt := 10) dX4_dig_5 (by decide) (fun h5 => ?_) (fun h5 => ?_)
  · skip
    refine v_aload_n dX4_dig_10 rfl 0 rfl ?_
    refine v_vRd (As := []) (rest := []) (c_X4_isFull l G m0 md hk ho de fl ai rn rf rt bu bn (by omega)) YX4_isFull mX4_84 dX4_dig_11 ciX4 0 rfl [0] rfl rfl rfl (Nat.le_of_ble_eq_true rfl) (by decide) (by decide) ?_
    refine v_if_eq (tgt := 20) dX4_dig_14 (by decide) (fun h14 => ?_) (fun h14 => ?_)
    · skip
      refine v_aload_n dX4_dig_20 rfl 0 rfl ?_
      refine v_dup dX4_dig_21 rfl ?_
      refine v_get fX4_81 dX4_dig_22 0 rfl rfl ?_
      refine v_iconst (v := 1) dX4_dig_25 (by decide) ?_
      refine v_iadd dX4_dig_26 ?_
      refine v_eqi (nI (de + 1)) (nI_1 de) ?_
      refine v_puti (ws' := [(m0, .inr (4, [.int (nI hk), .int (nI ho), .int (nI (de + 1)), .int fl, .int ai, .int rn, .int rf, .int rt, .ref (md 8), .ref (md 9), .ref (md 10), .ref (md 11), .ref (md 12), .ref (md 13), .ref (md 14), .ref (md 15), .ref (md 16), .ref (md 17), .ref (md 18), .ref (md 19), .ref (md 20), .ref (md 21), .ref (md 22), .int bu, .int (nI bn), .ref (md 25), .ref (md 26), .ref (md 27), .ref (md 28)])), (md 13, .inl (G.2.1, 42, .inl (fl6 mca)))]) pX4_81 dX4_dig_27 0 rfl (Nat.le_of_ble_eq_true rfl) rfl ?_
      refine v_aload_n dX4_dig_30 rfl 0 rfl ?_
      refine v_get fX4_32 dX4_dig_31 0 rfl rfl ?_
      refine v_iload_n dX4_dig_34 rfl 1 rfl ?_
      refine v_iald dX4_dig_35 1 rfl x.toNatClampNeg ((s_ish_ix hk6 h5).1) (by have := (s_ish_ix hk6 h5).2; omega) (by decide) ?_
      refine v_eqi (mca 0 x.toNatClampNeg) (fl6_at0 _ (Nat.lt_of_lt_of_le (s_ish_ix hk6 h5).2 hk6)) ?_
      refine v_bipush (v := 100) dX4_dig_36 (by decide) ?_
      refine v_idiv dX4_dig_38 (by decide) ?_
      refine v_istore_n (lv' := [(2, .int ((mca 0 x.toNatClampNeg) / 100)), (0, .ref m0), (1, .int x)]) dX4_dig_39 rfl (by decide) rfl ?_
      refine v_iconst (v := 0) dX4_dig_40 (by decide) ?_
      refine v_istore_n (lv' := [(3, .int 0), (2, .int ((mca 0 x.toNatClampNeg) / 100)), (0, .ref m0), (1, .int x)]) dX4_dig_41 rfl (by decide) rfl ?_
      refine v_iload_n dX4_dig_42 rfl 0 rfl ?_
      refine v_bipush (v := 7) dX4_dig_43 (by decide) ?_
      refine v_icmp_ge (tgt := 66) dX4_dig_45 (by decide) (fun h45 => absurd h45 (by decide)) (fun h45 => ?_)
      refine v_aload_n dX4_dig_48 rfl 2 rfl ?_
      refine v_get fX4_32 dX4_dig_49 0 rfl rfl ?_
      refine v_bipush (v := nI 6) dX4_dig_52 (by decide) ?_
      refine v_iload_n dX4_dig_54 rfl 0 rfl ?_
      refine v_imul dX4_dig_55 ?_
      refine v_iload_n dX4_dig_56 rfl 3 rfl ?_
      refine v_iadd dX4_dig_57 ?_
      refine v_iconst (v := 0) dX4_dig_58 (by decide) ?_
      refine v_iast (ws' := [(m0, .inr (4, [.int (nI hk), .int (nI ho), .int (nI (de + 1)), .int fl, .int ai, .int rn, .int rf, .int rt, .ref (md 8), .ref (md 9), .ref (md 10), .ref (md 11), .ref (md 12), .ref (md 13), .ref (md 14), .ref (md 15), .ref (md 16), .ref (md 17), .ref (md 18), .ref (md 19), .ref (md 20), .ref (md 21), .ref (md 22), .int bu, .int (nI bn), .ref (md 25), .ref (md 26), .ref (md 27), .ref (md 28)])), (md 13, .inl (G.2.1, 42, .inl (upd (fl6 mca) (6 * 0 + x.toNatClampNeg) 0)))]) dX4_dig_59 1 rfl (6 * 0 + x.toNatClampNeg) ((show nI 6 * nI 0 + x = _ from m_ix 6 0 x.toNatClampNeg (s_ish_ix hk6 h5).1)) (by have := (s_ish_ix hk6 h5).2; omega) (by decide) rfl ?_
      refine v_iinc (v := 1) (q := 0) (lv' := [(3, .int 1), (2, .int ((mca 0 x.toNatClampNeg) / 100)), (0, .ref m0), (1, .int x)]) dX4_dig_60 rfl (by decide) (by decide) rfl ?_
      refine v_goto (tgt := 42) dX4_dig_63 (by decide) ?_
      refine v_iload_n dX4_dig_42 rfl 0 rfl ?_
      refine v_bipush (v := 7) dX4_dig_43 (by decide) ?_
      refine v_icmp_ge (tgt := 66) dX4_dig_45 (by decide) (fun h45 => absurd h45 (by decide)) (fun h45 => ?_)
      refine v_aload_n dX4_dig_48 rfl 2 rfl ?_
      refine v_get fX4_32 dX4_dig_49 0 rfl rfl ?_
      refine v_bipush (v := nI 6) dX4_dig_52 (by decide) ?_
      refine v_iload_n dX4_dig_54 rfl 0 rfl ?_
      refine v_imul dX4_dig_55 ?_
      refine v_iload_n dX4_dig_56 rfl 3 rfl ?_
      refine v_iadd dX4_dig_57 ?_
      refine v_iconst (v := 0) dX4_dig_58 (by decide) ?_
      refine v_iast (ws' := [(m0, .inr (4, [.int (nI hk), .int (nI ho), .int (nI (de + 1)), .int fl, .int ai, .int rn, .int rf, .int rt, .ref (md 8), .ref (md 9), .ref (md 10), .ref (md 11), .ref (md 12), .ref (md 13), .ref (md 14), .ref (md 15), .ref (md 16), .ref (md 17), .ref (md 18), .ref (md 19), .ref (md 20), .ref (md 21), .ref (md 22), .int bu, .int (nI bn), .ref (md 25), .ref (md 26), .ref (md 27), .ref (md 28)])), (md 13, .inl (G.2.1, 42, .inl (upd (upd (fl6 mca) (6 * 0 + x.toNatClampNeg) 0) (6 * 1 + x.toNatClampNeg) 0)))]) dX4_dig_59 1 rfl (6 * 1 + x.toNatClampNeg) ((show nI 6 * nI 1 + x = _ from m_ix 6 1 x.toNatClampNeg (s_ish_ix hk6 h5).1)) (by have := (s_ish_ix hk6 h5).2; omega) (by decide) rfl ?_
      refine v_iinc (v := 2) (q := 0) (lv' := [(3, .int 2), (2, .int ((mca 0 x.toNatClampNeg) / 100)), (0, .ref m0), (1, .int x)]) dX4_dig_60 rfl (by decide) (by decide) rfl ?_
      refine v_goto (tgt := 42) dX4_dig_63 (by decide) ?_
      refine v_iload_n dX4_dig_42 rfl 0 rfl ?_
      refine v_bipush (v := 7) dX4_dig_43 (by decide) ?_
      refine v_icmp_ge (tgt := 66) dX4_dig_45 (by decide) (fun h45 => absurd h45 (by decide)) (fun h45 => ?_)
      refine v_aload_n dX4_dig_48 rfl 2 rfl ?_
      refine v_get fX4_32 dX4_dig_49 0 rfl rfl ?_
      refine v_bipush (v := nI 6) dX4_dig_52 (by decide) ?_
      refine v_iload_n dX4_dig_54 rfl 0 rfl ?_
      refine v_imul dX4_dig_55 ?_
      refine v_iload_n dX4_dig_56 rfl 3 rfl ?_
      refine v_iadd dX4_dig_57 ?_
      refine v_iconst (v := 0) dX4_dig_58 (by decide) ?_
      refine v_iast (ws' := [(m0, .inr (4, [.int (nI hk), .int (nI ho), .int (nI (de + 1)), .int fl, .int ai, .int rn, .int rf, .int rt, .ref (md 8), .ref (md 9), .ref (md 10), .ref (md 11), .ref (md 12), .ref (md 13), .ref (md 14), .ref (md 15), .ref (md 16), .ref (md 17), .ref (md 18), .ref (md 19), .ref (md 20), .ref (md 21), .ref (md 22), .int bu, .int (nI bn), .ref (md 25), .ref (md 26), .ref (md 27), .ref (md 28)])), (md 13, .inl (G.2.1, 42, .inl (upd (upd (upd (fl6 mca) (6 * 0 + x.toNatClampNeg) 0) (6 * 1 + x.toNatClampNeg) 0) (6 * 2 + x.toNatClampNeg) 0)))]) dX4_dig_59 1 rfl (6 * 2 + x.toNatClampNeg) ((show nI 6 * nI 2 + x = _ from m_ix 6 2 x.toNatClampNeg (s_ish_ix hk6 h5).1)) (by have := (s_ish_ix hk6 h5).2; omega) (by decide) rfl ?_
      refine v_iinc (v := 3) (q := 0) (lv' := [(3, .int 3), (2, .int ((mca 0 x.toNatClampNeg) / 100)), (0, .ref m0), (1, .int x)]) dX4_dig_60 rfl (by decide) (by decide) rfl ?_
      refine v_goto (tgt := 42) dX4_dig_63 (by decide) ?_
      refine v_iload_n dX4_dig_42 rfl 0 rfl ?_
      refine v_bipush (v := 7) dX4_dig_43 (by decide) ?_
      refine v_icmp_ge (tgt := 66) dX4_dig_45 (by decide) (fun h45 => absurd h45 (by decide)) (fun h45 => ?_)
      refine v_aload_n dX4_dig_48 rfl 2 rfl ?_
      refine v_get fX4_32 dX4_dig_49 0 rfl rfl ?_
      refine v_bipush (v := nI 6) dX4_dig_52 (by decide) ?_
      refine v_iload_n dX4_dig_54 rfl 0 rfl ?_
      refine v_imul dX4_dig_55 ?_
      refine v_iload_n dX4_dig_56 rfl 3 rfl ?_
      refine v_iadd dX4_dig_57 ?_
      refine v_iconst (v := 0) dX4_dig_58 (by decide) ?_
      refine v_iast (ws' := [(m0, .inr (4, [.int (nI hk), .int (nI ho), .int (nI (de + 1)), .int fl, .int ai, .int rn, .int rf, .int rt, .ref (md 8), .ref (md 9), .ref (md 10), .ref (md 11), .ref (md 12), .ref (md 13), .ref (md 14), .ref (md 15), .ref (md 16), .ref (md 17), .ref (md 18), .ref (md 19), .ref (md 20), .ref (md 21), .ref (md 22), .int bu, .int (nI bn), .ref (md 25), .ref (md 26), .ref (md 27), .ref (md 28)])), (md 13, .inl (G.2.1, 42, .inl (upd (upd (upd (upd (fl6 mca) (6 * 0 + x.toNatClampNeg) 0) (6 * 1 + x.toNatClampNeg) 0) (6 * 2 + x.toNatClampNeg) 0) (6 * 3 + x.toNatClampNeg) 0)))]) dX4_dig_59 1 rfl (6 * 3 + x.toNatClampNeg) ((show nI 6 * nI 3 + x = _ from m_ix 6 3 x.toNatClampNeg (s_ish_ix hk6 h5).1)) (by have := (s_ish_ix hk6 h5).2; omega) (by decide) rfl ?_
      refine v_iinc (v := 4) (q := 0) (lv' := [(3, .int 4), (2, .int ((mca 0 x.toNatClampNeg) / 100)), (0, .ref m0), (1, .int x)]) dX4_dig_60 rfl (by decide) (by decide) rfl ?_
      refine v_goto (tgt := 42) dX4_dig_63 (by decide) ?_
      refine v_iload_n dX4_dig_42 rfl 0 rfl ?_
      refine v_bipush (v := 7) dX4_dig_43 (by decide) ?_
      refine v_icmp_ge (tgt := 66) dX4_dig_45 (by decide) (fun h45 => absurd h45 (by decide)) (fun h45 => ?_)
      refine v_aload_n dX4_dig_48 rfl 2 rfl ?_
      refine v_get fX4_32 dX4_dig_49 0 rfl rfl ?_
      refine v_bipush (v := nI 6) dX4_dig_52 (by decide) ?_
      refine v_iload_n dX4_dig_54 rfl 0 rfl ?_
      refine v_imul dX4_dig_55 ?_
      refine v_iload_n dX4_dig_56 rfl 3 rfl ?_
      refine v_iadd dX4_dig_57 ?_
      refine v_iconst (v := 0) dX4_dig_58 (by decide) ?_
      refine v_iast (ws' := [(m0, .inr (4, [.int (nI hk), .int (nI ho), .int (nI (de + 1)), .int fl, .int ai, .int rn, .int rf, .int rt, .ref (md 8), .ref (md 9), .ref (md 10), .ref (md 11), .ref (md 12), .ref (md 13), .ref (md 14), .ref (md 15), .ref (md 16), .ref (md 17), .ref (md 18), .ref (md 19), .ref (md 20), .ref (md 21), .ref (md 22), .int bu, .int (nI bn), .ref (md 25), .ref (md 26), .ref (md 27), .ref (md 28)])), (md 13, .inl (G.2.1, 42, .inl (upd (upd (upd (upd (upd (fl6 mca) (6 * 0 + x.toNatClampNeg) 0) (6 * 1 + x.toNatClampNeg) 0) (6 * 2 + x.toNatClampNeg) 0) (6 * 3 + x.toNatClampNeg) 0) (6 * 4 + x.toNatClampNeg) 0)))]) dX4_dig_59 1 rfl (6 * 4 + x.toNatClampNeg) ((show nI 6 * nI 4 + x = _ from m_ix 6 4 x.toNatClampNeg (s_ish_ix hk6 h5).1)) (by have := (s_ish_ix hk6 h5).2; omega) (by decide) rfl ?_
      refine v_iinc (v := 5) (q := 0) (lv' := [(3, .int 5), (2, .int ((mca 0 x.toNatClampNeg) / 100)), (0, .ref m0), (1, .int x)]) dX4_dig_60 rfl (by decide) (by decide) rfl ?_
      refine v_goto (tgt := 42) dX4_dig_63 (by decide) ?_
      refine v_iload_n dX4_dig_42 rfl 0 rfl ?_
      refine v_bipush (v := 7) dX4_dig_43 (by decide) ?_
      refine v_icmp_ge (tgt := 66) dX4_dig_45 (by decide) (fun h45 => absurd h45 (by decide)) (fun h45 => ?_)
      refine v_aload_n dX4_dig_48 rfl 2 rfl ?_
      refine v_get fX4_32 dX4_dig_49 0 rfl rfl ?_
      refine v_bipush (v := nI 6) dX4_dig_52 (by decide) ?_
      refine v_iload_n dX4_dig_54 rfl 0 rfl ?_
      refine v_imul dX4_dig_55 ?_
      refine v_iload_n dX4_dig_56 rfl 3 rfl ?_
      refine v_iadd dX4_dig_57 ?_
      refine v_iconst (v := 0) dX4_dig_58 (by decide) ?_
      refine v_iast (ws' := [(m0, .inr (4, [.int (nI hk), .int (nI ho), .int (nI (de + 1)), .int fl, .int ai, .int rn, .int rf, .int rt, .ref (md 8), .ref (md 9), .ref (md 10), .ref (md 11), .ref (md 12), .ref (md 13), .ref (md 14), .ref (md 15), .ref (md 16), .ref (md 17), .ref (md 18), .ref (md 19), .ref (md 20), .ref (md 21), .ref (md 22), .int bu, .int (nI bn), .ref (md 25), .ref (md 26), .ref (md 27), .ref (md 28)])), (md 13, .inl (G.2.1, 42, .inl (upd (upd (upd (upd (upd (upd (fl6 mca) (6 * 0 + x.toNatClampNeg) 0) (6 * 1 + x.toNatClampNeg) 0) (6 * 2 + x.toNatClampNeg) 0) (6 * 3 + x.toNatClampNeg) 0) (6 * 4 + x.toNatClampNeg) 0) (6 * 5 + x.toNatClampNeg) 0)))]) dX4_dig_59 1 rfl (6 * 5 + x.toNatClampNeg) ((show nI 6 * nI 5 + x = _ from m_ix 6 5 x.toNatClampNeg (s_ish_ix hk6 h5).1)) (by have := (s_ish_ix hk6 h5).2; omega) (by decide) rfl ?_
      refine v_iinc (v := 6) (q := 0) (lv' := [(3, .int 6), (2, .int ((mca 0 x.toNatClampNeg) / 100)), (0, .ref m0), (1, .int x)]) dX4_dig_60 rfl (by decide) (by decide) rfl ?_
      refine v_goto (tgt := 42) dX4_dig_63 (by decide) ?_
      refine v_iload_n dX4_dig_42 rfl 0 rfl ?_
      refine v_bipush (v := 7) dX4_dig_43 (by decide) ?_
      refine v_icmp_ge (tgt := 66) dX4_dig_45 (by decide) (fun h45 => absurd h45 (by decide)) (fun h45 => ?_)
      refine v_aload_n dX4_dig_48 rfl 2 rfl ?_
      refine v_get fX4_32 dX4_dig_49 0 rfl rfl ?_
      refine v_bipush (v := nI 6) dX4_dig_52 (by decide) ?_
      refine v_iload_n dX4_dig_54 rfl 0 rfl ?_
      refine v_imul dX4_dig_55 ?_
      refine v_iload_n dX4_dig_56 rfl 3 rfl ?_
      refine v_iadd dX4_dig_57 ?_
      refine v_iconst (v := 0) dX4_dig_58 (by decide) ?_
      refine v_iast (ws' := [(m0, .inr (4, [.int (nI hk), .int (nI ho), .int (nI (de + 1)), .int fl, .int ai, .int rn, .int rf, .int rt, .ref (md 8), .ref (md 9), .ref (md 10), .ref (md 11), .ref (md 12), .ref (md 13), .ref (md 14), .ref (md 15), .ref (md 16), .ref (md 17), .ref (md 18), .ref (md 19), .ref (md 20), .ref (md 21), .ref (md 22), .int bu, .int (nI bn), .ref (md 25), .ref (md 26), .ref (md 27), .ref (md 28)])), (md 13, .inl (G.2.1, 42, .inl (upd (upd (upd (upd (upd (upd (upd (fl6 mca) (6 * 0 + x.toNatClampNeg) 0) (6 * 1 + x.toNatClampNeg) 0) (6 * 2 + x.toNatClampNeg) 0) (6 * 3 + x.toNatClampNeg) 0) (6 * 4 + x.toNatClampNeg) 0) (6 * 5 + x.toNatClampNeg) 0) (6 * 6 + x.toNatClampNeg) 0)))]) dX4_dig_59 1 rfl (6 * 6 + x.toNatClampNeg) ((show nI 6 * nI 6 + x = _ from m_ix 6 6 x.toNatClampNeg (s_ish_ix hk6 h5).1)) (by have := (s_ish_ix hk6 h5).2; omega) (by decide) rfl ?_
      refine v_iinc (v := 7) (q := 0) (lv' := [(3, .int 7), (2, .int ((mca 0 x.toNatClampNeg) / 100)), (0, .ref m0), (1, .int x)]) dX4_dig_60 rfl (by decide) (by decide) rfl ?_
      refine v_goto (tgt := 42) dX4_dig_63 (by decide) ?_
      refine v_iload_n dX4_dig_42 rfl 0 rfl ?_
      refine v_bipush (v := 7) dX4_dig_43 (by decide) ?_
      refine v_icmp_ge (tgt := 66) dX4_dig_45 (by decide) (fun h45 => ?_) (fun h45 => absurd h45 (by decide))
      refine v_iload_n dX4_dig_66 rfl 1 rfl ?_
      exact v_iretM dX4_dig_67 (by simp only [s_sel, if_neg h5, if_pos h14] <;> rfl) (v_w2 (fun (z0 : Int32) (z1 : Nat → Int32) => ([(m0, .inr (4, [.int (nI hk), .int (nI ho), .int z0, .int fl, .int ai, .int rn, .int rf, .int rt, .ref (md 8), .ref (md 9), .ref (md 10), .ref (md 11), .ref (md 12), .ref (md 13), .ref (md 14), .ref (md 15), .ref (md 16), .ref (md 17), .ref (md 18), .ref (md 19), .ref (md 20), .ref (md 21), .ref (md 22), .int bu, .int (nI bn), .ref (md 25), .ref (md 26), .ref (md 27), .ref (md 28)])), (md 13, .inl (G.2.1, 42, .inl z1))] : va_W)) (by simp only [s_sel, if_neg h5, if_pos h14, u_id] <;> rfl) (by rw [m_dig _ (Nat.lt_of_lt_of_le (s_ish_ix hk6 h5).2 hk6)]; simp only [s_sel, if_neg h5, if_pos h14]))
    · skip
      refine v_bipush (v := (-3)) dX4_dig_17 (by decide) ?_
      exact v_iretM dX4_dig_19 (by simp only [s_sel, if_neg h5, if_neg h14] <;> rfl) (v_w2 (fun (z0 : Int32) (z1 : Nat → Int32) => ([(m0, .inr (4, [.int (nI hk), .int (nI ho), .int z0, .int fl, .int ai, .int rn, .int rf, .int rt, .ref (md 8), .ref (md 9), .ref (md 10), .ref (md 11), .ref (md 12), .ref (md 13), .ref (md 14), .ref (md 15), .ref (md 16), .ref (md 17), .ref (md 18), .ref (md 19), .ref (md 20), .ref (md 21), .ref (md 22), .int bu, .int (nI bn), .ref (md 25), .ref (md 26), .ref (md 27), .ref (md 28)])), (md 13, .inl (G.2.1, 42, .inl z1))] : va_W)) (by simp only [s_sel, if_neg h5, if_neg h14, u_id] <;> rfl) (by simp only [s_sel, if_neg h5, if_neg h14, u_id] <;> rfl))
  · skip
    refine v_iconst (v := (-1)) dX4_dig_8 (by decide) ?_
    exact v_iretM dX4_dig_9 (by simp only [s_sel, if_pos h5] <;> rfl) (v_w2 (fun (z0 : Int32) (z1 : Nat → Int32) => ([(m0, .inr (4, [.int (nI hk), .int (nI ho), .int z0, .int fl, .int ai, .int rn, .int rf, .int rt, .ref (md 8), .ref (md 9), .ref (md 10), .ref (md 11), .ref (md 12), .ref (md 13), .ref (md 14), .ref (md 15), .ref (md 16), .ref (md 17), .ref (md 18), .ref (md 19), .ref (md 20), .ref (md 21), .ref (md 22), .int bu, .int (nI bn), .ref (md 25), .ref (md 26), .ref (md 27), .ref (md 28)])), (md 13, .inl (G.2.1, 42, .inl z1))] : va_W)) (by simp only [s_sel, if_pos h5, u_id] <;> rfl) (by simp only [s_sel, if_pos h5, u_id] <;> rfl))

set_option maxRecDepth 100000 in
set_option maxHeartbeats 4000000 in
theorem c_X4_told (l : Launch) (G : v_Cfg) (m0 : Nat) (md : Nat → Nat) (hk : Nat) (ho : Nat) (de : Nat) (fl : Int32) (ai : Int32) (rn : Int32) (rf : Int32) (rt : Int32) (bu : Int32) (bn : Nat) (wi : Nat → Int32) (qu : Nat → Int32) (fn : Nat → Nat) (pn : Nat → Nat) (mca : Nat → Nat → Int32) (mtk : Nat → Nat → Int32) (x : Int32) (y : Int32) (hk6 : hk ≤ 6) : RdI l G yX4_told cX4_told 3 (some .int) 2 [.ref m0, .int x, .int y] [(m0, .inr (4, [.int (nI hk), .int (nI ho), .int (nI de), .int fl, .int ai, .int rn, .int rf, .int rt, .ref (md 8), .ref (md 9), .ref (md 10), .ref (md 11), .ref (md 12), .ref (md 13), .ref (md 14), .ref (md 15), .ref (md 16), .ref (md 17), .ref (md 18), .ref (md 19), .ref (md 20), .ref (md 21), .ref (md 22), .int bu, .int (nI bn), .ref (md 25), .ref (md 26), .ref (md 27), .ref (md 28)])), (md 8, .inl (G.2.1, 6, .inl (pN fn))), (md 9, .inl (G.2.1, 6, .inl wi)), (md 10, .inl (G.2.1, 6, .inl (pN pn))), (md 11, .inl (G.2.1, 6, .inl qu)), (md 13, .inl (G.2.1, 42, .inl (fl6 mca))), (md 14, .inl (G.2.1, 42, .inl (fl6 mtk)))] (m_told (s_ish x (nI hk)) y (s_in y 0 7) (pN fn x.toNatClampNeg) (wi x.toNatClampNeg) (pN pn x.toNatClampNeg) (qu x.toNatClampNeg) (mca 0 x.toNatClampNeg) (s_most (wi x.toNatClampNeg) (mca 0 x.toNatClampNeg)) (mtk 0 x.toNatClampNeg)) := by
  refine RdI.of (own := RX4) (by decide) rfl (Nat.le_of_ble_eq_true rfl) (fun p e s m below meth c => ?_)
  refine v_aload_n dX4_told_0 rfl 0 rfl ?_
  refine v_iload_n dX4_told_1 rfl 1 rfl ?_
  refine v_vRd (As := [.int x]) (rest := []) (c_X4_isHatch l G m0 md hk ho de fl ai rn rf rt bu bn x hk6) YX4_isHatch mX4_88 dX4_told_2 ciX4 0 rfl [0] rfl rfl rfl (Nat.le_of_ble_eq_true rfl) (by decide) (by decide) ?_
  refine v_if_eq (tgt := 18) dX4_told_5 (by decide) (fun h5 => ?_) (fun h5 => ?_)
  · skip
    refine v_iconst (v := (-1)) dX4_told_18 (by decide) ?_
    exact v_iretR dX4_told_19 (by simp only [m_told, if_pos h5] <;> rfl)
  · skip
    refine v_iload_n dX4_told_8 rfl 2 rfl ?_
    refine v_iconst (v := 0) dX4_told_9 (by decide) ?_
    refine v_bipush (v := 7) dX4_told_10 (by decide) ?_
    refine v_sRd (As := [.int y, .int 0, .int 7]) (rest := []) (c_X4_in l G y 0 7 ) YX4_in mX4_77 dX4_told_12 [] rfl rfl rfl (Nat.le_of_ble_eq_true rfl) (by decide) (by decide) ?_
    refine v_if_ne (tgt := 20) dX4_told_15 (by decide) (fun h15 => ?_) (fun h15 => ?_)
    · skip
      refine v_iload_n dX4_told_20 rfl 2 rfl ?_
      by_cases w21_0 : y = 0
      · refine v_eqi 0 w21_0 ?_
        refine v_tableIn (off := 43) (tgt := 64) dX4_told_21 (by decide) (by decide) (by decide) (by decide) ?_
        refine v_aload_n dX4_told_64 rfl 0 rfl ?_
        refine v_get fX4_16 dX4_told_65 0 rfl rfl ?_
        refine v_iload_n dX4_told_68 rfl 1 rfl ?_
        refine v_iald dX4_told_69 1 rfl x.toNatClampNeg ((s_ish_ix hk6 h5).1) (Nat.lt_of_lt_of_le (s_ish_ix hk6 h5).2 hk6) (by decide) ?_
        exact v_iretR dX4_told_70 (by simp only [m_told, if_neg h5, if_neg h15, if_pos w21_0] <;> rfl)
      by_cases w21_1 : y = 1
      · refine v_eqi 1 w21_1 ?_
        refine v_tableIn (off := 50) (tgt := 71) dX4_told_21 (by decide) (by decide) (by decide) (by decide) ?_
        refine v_aload_n dX4_told_71 rfl 0 rfl ?_
        refine v_get fX4_20 dX4_told_72 0 rfl rfl ?_
        refine v_iload_n dX4_told_75 rfl 1 rfl ?_
        refine v_iald dX4_told_76 2 rfl x.toNatClampNeg ((s_ish_ix hk6 h5).1) (Nat.lt_of_lt_of_le (s_ish_ix hk6 h5).2 hk6) (by decide) ?_
        exact v_iretR dX4_told_77 (by simp only [m_told, if_neg h5, if_neg h15, if_neg w21_0, if_pos w21_1] <;> rfl)
      by_cases w21_2 : y = 2
      · refine v_eqi 2 w21_2 ?_
        refine v_tableIn (off := 57) (tgt := 78) dX4_told_21 (by decide) (by decide) (by decide) (by decide) ?_
        refine v_aload_n dX4_told_78 rfl 0 rfl ?_
        refine v_get fX4_23 dX4_told_79 0 rfl rfl ?_
        refine v_iload_n dX4_told_82 rfl 1 rfl ?_
        refine v_iald dX4_told_83 3 rfl x.toNatClampNeg ((s_ish_ix hk6 h5).1) (Nat.lt_of_lt_of_le (s_ish_ix hk6 h5).2 hk6) (by decide) ?_
        exact v_iretR dX4_told_84 (by simp only [m_told, if_neg h5, if_neg h15, if_neg w21_0, if_neg w21_1, if_pos w21_2] <;> rfl)
      by_cases w21_3 : y = 3
      · refine v_eqi 3 w21_3 ?_
        refine v_tableIn (off := 64) (tgt := 85) dX4_told_21 (by decide) (by decide) (by decide) (by decide) ?_
        refine v_aload_n dX4_told_85 rfl 0 rfl ?_
        refine v_get fX4_26 dX4_told_86 0 rfl rfl ?_
        refine v_iload_n dX4_told_89 rfl 1 rfl ?_
        refine v_iald dX4_told_90 4 rfl x.toNatClampNeg ((s_ish_ix hk6 h5).1) (Nat.lt_of_lt_of_le (s_ish_ix hk6 h5).2 hk6) (by decide) ?_
        exact v_iretR dX4_told_91 (by simp only [m_told, if_neg h5, if_neg h15, if_neg w21_0, if_neg w21_1, if_neg w21_2, if_pos w21_3] <;> rfl)
      by_cases w21_4 : y = 4
      · refine v_eqi 4 w21_4 ?_
        refine v_tableIn (off := 71) (tgt := 92) dX4_told_21 (by decide) (by decide) (by decide) (by decide) ?_
        refine v_aload_n dX4_told_92 rfl 0 rfl ?_
        refine v_get fX4_32 dX4_told_93 0 rfl rfl ?_
        refine v_iload_n dX4_told_96 rfl 1 rfl ?_
        refine v_iald dX4_told_97 5 rfl x.toNatClampNeg ((s_ish_ix hk6 h5).1) (by have := (Nat.lt_of_lt_of_le (s_ish_ix hk6 h5).2 hk6); omega) (by decide) ?_
        refine v_eqi (mca 0 x.toNatClampNeg) (fl6_at0 _ (Nat.lt_of_lt_of_le (s_ish_ix hk6 h5).2 hk6)) ?_
        refine v_bipush (v := 100) dX4_told_98 (by decide) ?_
        refine v_idiv dX4_told_100 (by decide) ?_
        exact v_iretR dX4_told_101 (by simp only [m_told, if_neg h5, if_neg h15, if_neg w21_0, if_neg w21_1, if_neg w21_2, if_neg w21_3, if_pos w21_4] <;> rfl)
      by_cases w21_5 : y = 5
      · refine v_eqi 5 w21_5 ?_
        refine v_tableIn (off := 81) (tgt := 102) dX4_told_21 (by decide) (by decide) (by decide) (by decide) ?_
        refine v_aload_n dX4_told_102 rfl 0 rfl ?_
        refine v_get fX4_32 dX4_told_103 0 rfl rfl ?_
        refine v_iload_n dX4_told_106 rfl 1 rfl ?_
        refine v_iald dX4_told_107 5 rfl x.toNatClampNeg ((s_ish_ix hk6 h5).1) (by have := (Nat.lt_of_lt_of_le (s_ish_ix hk6 h5).2 hk6); omega) (by decide) ?_
        refine v_eqi (mca 0 x.toNatClampNeg) (fl6_at0 _ (Nat.lt_of_lt_of_le (s_ish_ix hk6 h5).2 hk6)) ?_
        exact v_iretR dX4_told_108 (by simp only [m_told, if_neg h5, if_neg h15, if_neg w21_0, if_neg w21_1, if_neg w21_2, if_neg w21_3, if_neg w21_4, if_pos w21_5] <;> rfl)
      by_cases w21_6 : y = 6
      · refine v_eqi 6 w21_6 ?_
        refine v_tableIn (off := 88) (tgt := 109) dX4_told_21 (by decide) (by decide) (by decide) (by decide) ?_
        refine v_aload_n dX4_told_109 rfl 0 rfl ?_
        refine v_iconst (v := nI 0) dX4_told_110 (by decide) ?_
        refine v_iload_n dX4_told_111 rfl 1 rfl ?_
        refine v_stk (st' := [.int (nI x.toNatClampNeg), .int (nI 0), .ref m0]) (v_s1 (fun (z0 : Int32) => ([.int z0, .int (nI 0), .ref m0] : List Value)) ((s_ish_ix hk6 h5).1)) ?_
        refine v_vRd (As := [.int (nI 0), .int (nI x.toNatClampNeg)]) (rest := []) (c_X4_most l G m0 md hk ho de fl ai rn rf rt bu bn wi mca 0 x.toNatClampNeg (by decide) ((Nat.lt_of_lt_of_le (s_ish_ix hk6 h5).2 hk6))) YX4_most mX4_105 dX4_told_112 ciX4 0 rfl [0, 2, 5] rfl rfl rfl (Nat.le_of_ble_eq_true rfl) (by decide) (by decide) ?_
        exact v_iretR dX4_told_115 (by simp only [m_told, if_neg h5, if_neg h15, if_neg w21_0, if_neg w21_1, if_neg w21_2, if_neg w21_3, if_neg w21_4, if_neg w21_5, if_pos w21_6] <;> rfl)
      refine v_tableOut (tgt := 116) dX4_told_21 (by have q0 := lv_neT w21_0 (a := 0) (by decide); have q1 := lv_neT w21_1 (a := 1) (by decide); have q2 := lv_neT w21_2 (a := 2) (by decide); have q3 := lv_neT w21_3 (a := 3) (by decide); have q4 := lv_neT w21_4 (a := 4) (by decide); have q5 := lv_neT w21_5 (a := 5) (by decide); have q6 := lv_neT w21_6 (a := 6) (by decide); omega) (by decide) ?_
      refine v_aload_n dX4_told_116 rfl 0 rfl ?_
      refine v_get fX4_35 dX4_told_117 0 rfl rfl ?_
      refine v_iload_n dX4_told_120 rfl 1 rfl ?_
      refine v_iald dX4_told_121 6 rfl x.toNatClampNeg ((s_ish_ix hk6 h5).1) (by have := (Nat.lt_of_lt_of_le (s_ish_ix hk6 h5).2 hk6); omega) (by decide) ?_
      refine v_eqi (mtk 0 x.toNatClampNeg) (fl6_at0 _ (Nat.lt_of_lt_of_le (s_ish_ix hk6 h5).2 hk6)) ?_
      exact v_iretR dX4_told_122 (by simp only [m_told, if_neg h5, if_neg h15, if_neg w21_0, if_neg w21_1, if_neg w21_2, if_neg w21_3, if_neg w21_4, if_neg w21_5, if_neg w21_6] <;> rfl)
    · skip
      refine v_iconst (v := (-1)) dX4_told_18 (by decide) ?_
      exact v_iretR dX4_told_19 (by simp only [m_told, if_neg h5, if_pos h15] <;> rfl)

set_option maxRecDepth 100000 in
set_option maxHeartbeats 4000000 in
theorem c_X4_pane (l : Launch) (G : v_Cfg) (m0 : Nat) (md : Nat → Nat) (hk : Nat) (ho : Nat) (de : Nat) (fl : Int32) (ai : Int32) (rn : Int32) (rf : Int32) (rt : Int32) (bu : Int32) (bn : Nat) (sh : Nat → Int32) (pn : Nat → Nat) (mgr : Nat → Nat → Int32) (mgo : Nat → Nat → Int32) (mwe : Nat → Nat → Int32) (mdr : Nat → Nat → Int32) (mea : Nat → Nat → Int32) (x : Int32) (y : Int32) (z : Int32) (hk6 : hk ≤ 6) (hpn4 : ∀ h, pn h ≤ 4) : RdI l G yX4_pane cX4_pane 5 (some .int) 3 [.ref m0, .int x, .int y, .int z] [(m0, .inr (4, [.int (nI hk), .int (nI ho), .int (nI de), .int fl, .int ai, .int rn, .int rf, .int rt, .ref (md 8), .ref (md 9), .ref (md 10), .ref (md 11), .ref (md 12), .ref (md 13), .ref (md 14), .ref (md 15), .ref (md 16), .ref (md 17), .ref (md 18), .ref (md 19), .ref (md 20), .ref (md 21), .ref (md 22), .int bu, .int (nI bn), .ref (md 25), .ref (md 26), .ref (md 27), .ref (md 28)])), (md 10, .inl (G.2.1, 6, .inl (pN pn))), (md 12, .inl (G.2.1, 24, .inl sh)), (md 15, .inl (G.2.1, 168, .inl (fl24 mgr))), (md 16, .inl (G.2.1, 168, .inl (fl24 mgo))), (md 17, .inl (G.2.1, 168, .inl (fl24 mwe))), (md 18, .inl (G.2.1, 168, .inl (fl24 mdr))), (md 19, .inl (G.2.1, 168, .inl (fl24 mea)))] (m_pane (s_isp x y (nI hk) (pN pn x.toNatClampNeg)) z (s_in z 0 5) (mgr 0 (4 * x.toNatClampNeg + y.toNatClampNeg)) (mgo 0 (4 * x.toNatClampNeg + y.toNatClampNeg)) (mwe 0 (4 * x.toNatClampNeg + y.toNatClampNeg)) (mdr 0 (4 * x.toNatClampNeg + y.toNatClampNeg)) (sh (4 * x.toNatClampNeg + y.toNatClampNeg)) (mea 0 (4 * x.toNatClampNeg + y.toNatClampNeg))) := by
  refine RdI.of (own := RX4) (by decide) rfl (Nat.le_of_ble_eq_true rfl) (fun p e s m below meth c => ?_)
  refine v_aload_n dX4_pane_0 rfl 0 rfl ?_
  refine v_iload_n dX4_pane_1 rfl 1 rfl ?_
  refine v_iload_n dX4_pane_2 rfl 2 rfl ?_
  refine v_vRd (As := [.int x, .int y]) (rest := []) (c_X4_isPane l G m0 md hk ho de fl ai rn rf rt bu bn pn x y hk6 hpn4) YX4_isPane mX4_92 dX4_pane_3 ciX4 0 rfl [0, 1] rfl rfl rfl (Nat.le_of_ble_eq_true rfl) (by decide) (by decide) ?_
  refine v_if_eq (tgt := 18) dX4_pane_6 (by decide) (fun h6 => ?_) (fun h6 => ?_)
  · skip
    refine v_iconst (v := (-1)) dX4_pane_18 (by decide) ?_
    exact v_iretR dX4_pane_19 (by simp only [m_pane, if_pos h6] <;> rfl)
  · skip
    refine v_iload_n dX4_pane_9 rfl 3 rfl ?_
    refine v_iconst (v := 0) dX4_pane_10 (by decide) ?_
    refine v_iconst (v := 5) dX4_pane_11 (by decide) ?_
    refine v_sRd (As := [.int z, .int 0, .int 5]) (rest := []) (c_X4_in l G z 0 5 ) YX4_in mX4_77 dX4_pane_12 [] rfl rfl rfl (Nat.le_of_ble_eq_true rfl) (by decide) (by decide) ?_
    refine v_if_ne (tgt := 20) dX4_pane_15 (by decide) (fun h15 => ?_) (fun h15 => ?_)
    · skip
      have hix := s_isp_ix hk6 (hpn4 x.toNatClampNeg) rfl h6
      have hi4 := hpn4 x.toNatClampNeg
      have hpl : nI 4 * x + y = nI (4 * x.toNatClampNeg + y.toNatClampNeg) := (congrArg (nI 4 * · + y) hix.1.1).trans (m_ix 4 x.toNatClampNeg y.toNatClampNeg hix.2.1)
      refine v_iconst (v := nI 4) dX4_pane_20 (by decide) ?_
      refine v_iload_n dX4_pane_21 rfl 1 rfl ?_
      refine v_imul dX4_pane_22 ?_
      refine v_iload_n dX4_pane_23 rfl 2 rfl ?_
      refine v_iadd dX4_pane_24 ?_
      refine v_eqi (nI (4 * x.toNatClampNeg + y.toNatClampNeg)) hpl ?_
      refine v_istore (lv' := [(4, .int (nI (4 * x.toNatClampNeg + y.toNatClampNeg))), (0, .ref m0), (1, .int x), (2, .int y), (3, .int z)]) dX4_pane_25 (by decide) rfl ?_
      refine v_iload_n dX4_pane_27 rfl 4 rfl ?_
      by_cases w28_0 : z = 0
      · refine v_eqi 0 w28_0 ?_
        refine v_tableIn (off := 36) (tgt := 64) dX4_pane_28 (by decide) (by decide) (by decide) (by decide) ?_
        refine v_aload_n dX4_pane_64 rfl 1 rfl ?_
        refine v_get fX4_38 dX4_pane_65 0 rfl rfl ?_
        refine v_iload dX4_pane_68 0 rfl ?_
        refine v_iald dX4_pane_70 3 rfl (4 * x.toNatClampNeg + y.toNatClampNeg) rfl (by omega) (by decide) ?_
        refine v_eqi (mgr 0 (4 * x.toNatClampNeg + y.toNatClampNeg)) (fl24_at0 _ (by omega)) ?_
        exact v_iretR dX4_pane_71 (by simp only [m_pane, if_neg h6, if_neg h15, if_pos w28_0] <;> rfl)
      by_cases w28_1 : z = 1
      · refine v_eqi 1 w28_1 ?_
        refine v_tableIn (off := 44) (tgt := 72) dX4_pane_28 (by decide) (by decide) (by decide) (by decide) ?_
        refine v_aload_n dX4_pane_72 rfl 1 rfl ?_
        refine v_get fX4_41 dX4_pane_73 0 rfl rfl ?_
        refine v_iload dX4_pane_76 0 rfl ?_
        refine v_iald dX4_pane_78 4 rfl (4 * x.toNatClampNeg + y.toNatClampNeg) rfl (by omega) (by decide) ?_
        refine v_eqi (mgo 0 (4 * x.toNatClampNeg + y.toNatClampNeg)) (fl24_at0 _ (by omega)) ?_
        exact v_iretR dX4_pane_79 (by simp only [m_pane, if_neg h6, if_neg h15, if_neg w28_0, if_pos w28_1] <;> rfl)
      by_cases w28_2 : z = 2
      · refine v_eqi 2 w28_2 ?_
        refine v_tableIn (off := 52) (tgt := 80) dX4_pane_28 (by decide) (by decide) (by decide) (by decide) ?_
        refine v_aload_n dX4_pane_80 rfl 1 rfl ?_
        refine v_get fX4_44 dX4_pane_81 0 rfl rfl ?_
        refine v_iload dX4_pane_84 0 rfl ?_
        refine v_iald dX4_pane_86 5 rfl (4 * x.toNatClampNeg + y.toNatClampNeg) rfl (by omega) (by decide) ?_
        refine v_eqi (mwe 0 (4 * x.toNatClampNeg + y.toNatClampNeg)) (fl24_at0 _ (by omega)) ?_
        exact v_iretR dX4_pane_87 (by simp only [m_pane, if_neg h6, if_neg h15, if_neg w28_0, if_neg w28_1, if_pos w28_2] <;> rfl)
      by_cases w28_3 : z = 3
      · refine v_eqi 3 w28_3 ?_
        refine v_tableIn (off := 60) (tgt := 88) dX4_pane_28 (by decide) (by decide) (by decide) (by decide) ?_
        refine v_aload_n dX4_pane_88 rfl 1 rfl ?_
        refine v_get fX4_47 dX4_pane_89 0 rfl rfl ?_
        refine v_iload dX4_pane_92 0 rfl ?_
        refine v_iald dX4_pane_94 6 rfl (4 * x.toNatClampNeg + y.toNatClampNeg) rfl (by omega) (by decide) ?_
        refine v_eqi (mdr 0 (4 * x.toNatClampNeg + y.toNatClampNeg)) (fl24_at0 _ (by omega)) ?_
        exact v_iretR dX4_pane_95 (by simp only [m_pane, if_neg h6, if_neg h15, if_neg w28_0, if_neg w28_1, if_neg w28_2, if_pos w28_3] <;> rfl)
      by_cases w28_4 : z = 4
      · refine v_eqi 4 w28_4 ?_
        refine v_tableIn (off := 68) (tgt := 96) dX4_pane_28 (by decide) (by decide) (by decide) (by decide) ?_
        refine v_aload_n dX4_pane_96 rfl 1 rfl ?_
        refine v_get fX4_29 dX4_pane_97 0 rfl rfl ?_
        refine v_iload dX4_pane_100 0 rfl ?_
        refine v_iald dX4_pane_102 2 rfl (4 * x.toNatClampNeg + y.toNatClampNeg) rfl (by omega) (by decide) ?_
        exact v_iretR dX4_pane_103 (by simp only [m_pane, if_neg h6, if_neg h15, if_neg w28_0, if_neg w28_1, if_neg w28_2, if_neg w28_3, if_pos w28_4] <;> rfl)
      refine v_tableOut (tgt := 104) dX4_pane_28 (by have q0 := lv_neT w28_0 (a := 0) (by decide); have q1 := lv_neT w28_1 (a := 1) (by decide); have q2 := lv_neT w28_2 (a := 2) (by decide); have q3 := lv_neT w28_3 (a := 3) (by decide); have q4 := lv_neT w28_4 (a := 4) (by decide); omega) (by decide) ?_
      refine v_aload_n dX4_pane_104 rfl 1 rfl ?_
      refine v_get fX4_50 dX4_pane_105 0 rfl rfl ?_
      refine v_iload dX4_pane_108 0 rfl ?_
      refine v_iald dX4_pane_110 7 rfl (4 * x.toNatClampNeg + y.toNatClampNeg) rfl (by omega) (by decide) ?_
      refine v_eqi (mea 0 (4 * x.toNatClampNeg + y.toNatClampNeg)) (fl24_at0 _ (by omega)) ?_
      exact v_iretR dX4_pane_111 (by simp only [m_pane, if_neg h6, if_neg h15, if_neg w28_0, if_neg w28_1, if_neg w28_2, if_neg w28_3, if_neg w28_4] <;> rfl)
    · skip
      refine v_iconst (v := (-1)) dX4_pane_18 (by decide) ?_
      exact v_iretR dX4_pane_19 (by simp only [m_pane, if_neg h6, if_pos h15] <;> rfl)

set_option maxRecDepth 100000 in
set_option maxHeartbeats 4000000 in
theorem c_X4_sum (l : Launch) (G : v_Cfg) (m0 : Nat) (md : Nat → Nat) (hk : Nat) (ho : Nat) (de : Nat) (fl : Int32) (ai : Int32) (rn : Int32) (rf : Int32) (rt : Int32) (bu : Int32) (bn : Nat) (f : Nat → Nat → Int32) (b : Nat) (s_ : Nat) (hs : s_ < 7) : RdI l G yX4_sum cX4_sum 5 (some .int) 0 [.ref m0, .ref b, .int (nI s_)] [(m0, .inr (4, [.int (nI hk), .int (nI ho), .int (nI de), .int fl, .int ai, .int rn, .int rf, .int rt, .ref (md 8), .ref (md 9), .ref (md 10), .ref (md 11), .ref (md 12), .ref (md 13), .ref (md 14), .ref (md 15), .ref (md 16), .ref (md 17), .ref (md 18), .ref (md 19), .ref (md 20), .ref (md 21), .ref (md 22), .int bu, .int (nI bn), .ref (md 25), .ref (md 26), .ref (md 27), .ref (md 28)])), (b, .inl (G.2.1, 168, .inl (fl24 f)))] (m_sum (f s_) 24) := by
  refine RdI.of (own := RX4) (by decide) rfl (Nat.le_of_ble_eq_true rfl) (fun p e s m below meth c => ?_)
  refine v_iconst (v := 0) dX4_sum_0 (by decide) ?_
  refine v_istore_n (lv' := [(3, .int 0), (0, .ref m0), (1, .ref b), (2, .int (nI s_))]) dX4_sum_1 rfl (by decide) rfl ?_
  refine v_iconst (v := 0) dX4_sum_2 (by decide) ?_
  refine v_istore (lv' := [(4, .int 0), (3, .int 0), (0, .ref m0), (1, .ref b), (2, .int (nI s_))]) dX4_sum_3 (by decide) rfl ?_
  have loop5 : ∀ (k5 i : Nat), i + k5 = 24 → V p l e (rmk 0) s m #[.ref m0, .ref b, .int (nI s_)] below meth c (MQ below (vp_Si (fun vr => vr = (m_sum (f s_) 24))) #[.ref m0, .ref b, .int (nI s_)] s 0 0 (fun _ => False)) G (v_Ir s) cX4_sum RX4 5 (some .int) [(m0, .inr (4, [.int (nI hk), .int (nI ho), .int (nI de), .int fl, .int ai, .int rn, .int rf, .int rt, .ref (md 8), .ref (md 9), .ref (md 10), .ref (md 11), .ref (md 12), .ref (md 13), .ref (md 14), .ref (md 15), .ref (md 16), .ref (md 17), .ref (md 18), .ref (md 19), .ref (md 20), .ref (md 21), .ref (md 22), .int bu, .int (nI bn), .ref (md 25), .ref (md 26), .ref (md 27), .ref (md 28)])), (b, .inl (G.2.1, 168, .inl (fl24 f)))] 0 0 [(4, .int (nI i)), (3, .int (m_sum (f s_) i)), (0, .ref m0), (1, .ref b), (2, .int (nI s_))] 5 [] := by
    intro k5
    induction k5 with
    | zero =>
      intro i hi5
      have hi5 : i = 24 := by omega
      rw [hi5]
      refine v_iload dX4_sum_5 0 rfl ?_
      refine v_bipush (v := nI 24) dX4_sum_7 (by decide) ?_
      refine v_icmp_ge (tgt := 30) dX4_sum_9 (by decide) (fun h9 => ?_) (fun h9 => absurd (nI_le (by omega) (by omega)) h9)
      refine v_iload_n dX4_sum_30 rfl 1 rfl ?_
      exact v_iretR dX4_sum_31 rfl
    | succ k5 ih5 =>
      intro i hi5
      refine v_iload dX4_sum_5 0 rfl ?_
      refine v_bipush (v := nI 24) dX4_sum_7 (by decide) ?_
      refine v_icmp_ge (tgt := 30) dX4_sum_9 (by decide) (fun h9 => absurd h9 (nI_ge (by omega) (by omega))) (fun h9 => ?_)
      refine v_iload_n dX4_sum_12 rfl 1 rfl ?_
      refine v_aload_n dX4_sum_13 rfl 3 rfl ?_
      refine v_bipush (v := nI 24) dX4_sum_14 (by decide) ?_
      refine v_iload_n dX4_sum_16 rfl 4 rfl ?_
      refine v_imul dX4_sum_17 ?_
      refine v_iload dX4_sum_18 0 rfl ?_
      refine v_iadd dX4_sum_20 ?_
      refine v_eqi (nI (24 * s_ + i)) (m_ix 24 s_ i rfl) ?_
      refine v_iald dX4_sum_21 1 rfl (24 * s_ + i) rfl (by omega) (by decide) ?_
      refine v_eqi (f s_ i) (fl24_at _ hs (by omega)) ?_
      refine v_iadd dX4_sum_22 ?_
      refine v_istore_n (lv' := [(3, .int ((m_sum (f s_) i) + (f s_ i))), (4, .int (nI i)), (0, .ref m0), (1, .ref b), (2, .int (nI s_))]) dX4_sum_23 rfl (by decide) rfl ?_
      refine v_iinc (v := nI i + 1) (q := 1) (lv' := [(4, .int (nI i + 1)), (3, .int ((m_sum (f s_) i) + (f s_ i))), (0, .ref m0), (1, .ref b), (2, .int (nI s_))]) dX4_sum_24 rfl rfl (by decide) rfl ?_
      refine v_goto (tgt := 5) dX4_sum_27 (by decide) ?_
      refine v_lveq (lv' := [(4, .int (nI (i + 1))), (3, .int (m_sum (f s_) (i + 1))), (0, .ref m0), (1, .ref b), (2, .int (nI s_))]) (v_l2 (fun (z0 : Int32) (z1 : Int32) => ([(4, .int z0), (3, .int z1), (0, .ref m0), (1, .ref b), (2, .int (nI s_))] : List (Nat × Value))) (nI_1 i) rfl) ?_
      exact ih5 (i + 1) (by omega)
  refine v_lveq (lv' := [(4, .int (nI 0)), (3, .int (m_sum (f s_) 0)), (0, .ref m0), (1, .ref b), (2, .int (nI s_))]) (v_l2 (fun (z0 : Int32) (z1 : Int32) => ([(4, .int z0), (3, .int z1), (0, .ref m0), (1, .ref b), (2, .int (nI s_))] : List (Nat × Value))) nI_0.symm rfl) ?_
  exact loop5 24 0 (by omega)

set_option maxRecDepth 100000 in
set_option maxHeartbeats 4000000 in
theorem c_X4_stream (l : Launch) (G : v_Cfg) (m0 : Nat) (md : Nat → Nat) (hk : Nat) (ho : Nat) (de : Nat) (fl : Int32) (ai : Int32) (rn : Int32) (rf : Int32) (rt : Int32) (bu : Int32) (bn : Nat) (mdr : Nat → Nat → Int32) (mmi : Nat → Int32) (mla : Nat → Int32) (mmb : Nat → Int32) (x : Int32)  : RdI l G yX4_stream cX4_stream 2 (some .int) 1 [.ref m0, .int x] [(m0, .inr (4, [.int (nI hk), .int (nI ho), .int (nI de), .int fl, .int ai, .int rn, .int rf, .int rt, .ref (md 8), .ref (md 9), .ref (md 10), .ref (md 11), .ref (md 12), .ref (md 13), .ref (md 14), .ref (md 15), .ref (md 16), .ref (md 17), .ref (md 18), .ref (md 19), .ref (md 20), .ref (md 21), .ref (md 22), .int bu, .int (nI bn), .ref (md 25), .ref (md 26), .ref (md 27), .ref (md 28)])), (md 18, .inl (G.2.1, 168, .inl (fl24 mdr))), (md 20, .inl (G.2.1, 7, .inl (fl7 mmi))), (md 21, .inl (G.2.1, 7, .inl (fl7 mla))), (md 22, .inl (G.2.1, 7, .inl (fl7 mmb)))] (s_strm x fl ai bu (m_sum (mdr 0) 24) (mmi 0) (mla 0) (mmb 0)) := by
  refine RdI.of (own := RX4) (by decide) rfl (Nat.le_of_ble_eq_true rfl) (fun p e s m below meth c => ?_)
  refine v_iload_n dX4_stream_0 rfl 1 rfl ?_
  by_cases w1_0 : x = 0
  · refine v_eqi 0 w1_0 ?_
    refine v_tableIn (off := 43) (tgt := 44) dX4_stream_1 (by decide) (by decide) (by decide) (by decide) ?_
    refine v_aload_n dX4_stream_44 rfl 0 rfl ?_
    refine v_get fX4_7 dX4_stream_45 0 rfl rfl ?_
    exact v_iretR dX4_stream_48 (by simp only [s_strm, if_pos w1_0] <;> rfl)
  by_cases w1_1 : x = 1
  · refine v_eqi 1 w1_1 ?_
    refine v_tableIn (off := 48) (tgt := 49) dX4_stream_1 (by decide) (by decide) (by decide) (by decide) ?_
    refine v_aload_n dX4_stream_49 rfl 0 rfl ?_
    refine v_get fX4_13 dX4_stream_50 0 rfl rfl ?_
    exact v_iretR dX4_stream_53 (by simp only [s_strm, if_neg w1_0, if_pos w1_1] <;> rfl)
  by_cases w1_2 : x = 2
  · refine v_eqi 2 w1_2 ?_
    refine v_tableIn (off := 53) (tgt := 54) dX4_stream_1 (by decide) (by decide) (by decide) (by decide) ?_
    refine v_aload_n dX4_stream_54 rfl 0 rfl ?_
    refine v_get fX4_123 dX4_stream_55 0 rfl rfl ?_
    exact v_iretR dX4_stream_58 (by simp only [s_strm, if_neg w1_0, if_neg w1_1, if_pos w1_2] <;> rfl)
  by_cases w1_3 : x = 3
  · refine v_eqi 3 w1_3 ?_
    refine v_tableIn (off := 58) (tgt := 59) dX4_stream_1 (by decide) (by decide) (by decide) (by decide) ?_
    refine v_aload_n dX4_stream_59 rfl 0 rfl ?_
    refine v_aload_n dX4_stream_60 rfl 0 rfl ?_
    refine v_get fX4_47 dX4_stream_61 0 rfl rfl ?_
    refine v_iconst (v := nI 0) dX4_stream_64 (by decide) ?_
    refine v_vRd (As := [.ref (md 18), .int (nI 0)]) (rest := []) (c_X4_sum l G m0 md hk ho de fl ai rn rf rt bu bn mdr (md 18) 0 (by decide)) YX4_sum mX4_133 dX4_stream_65 ciX4 0 rfl [0, 1] rfl rfl rfl (Nat.le_of_ble_eq_true rfl) (by decide) (by decide) ?_
    exact v_iretR dX4_stream_68 (by simp only [s_strm, if_neg w1_0, if_neg w1_1, if_neg w1_2, if_pos w1_3] <;> rfl)
  by_cases w1_4 : x = 4
  · refine v_eqi 4 w1_4 ?_
    refine v_tableIn (off := 68) (tgt := 69) dX4_stream_1 (by decide) (by decide) (by decide) (by decide) ?_
    refine v_aload_n dX4_stream_69 rfl 0 rfl ?_
    refine v_get fX4_53 dX4_stream_70 0 rfl rfl ?_
    refine v_iconst (v := 0) dX4_stream_73 (by decide) ?_
    refine v_iald dX4_stream_74 2 rfl 0 rfl (by decide) (by decide) ?_
    refine v_eqi (mmi 0) (fl7_at _ (by decide)) ?_
    exact v_iretR dX4_stream_75 (by simp only [s_strm, if_neg w1_0, if_neg w1_1, if_neg w1_2, if_neg w1_3, if_pos w1_4] <;> rfl)
  by_cases w1_5 : x = 5
  · refine v_eqi 5 w1_5 ?_
    refine v_tableIn (off := 75) (tgt := 76) dX4_stream_1 (by decide) (by decide) (by decide) (by decide) ?_
    refine v_aload_n dX4_stream_76 rfl 0 rfl ?_
    refine v_get fX4_56 dX4_stream_77 0 rfl rfl ?_
    refine v_iconst (v := 0) dX4_stream_80 (by decide) ?_
    refine v_iald dX4_stream_81 3 rfl 0 rfl (by decide) (by decide) ?_
    refine v_eqi (mla 0) (fl7_at _ (by decide)) ?_
    exact v_iretR dX4_stream_82 (by simp only [s_strm, if_neg w1_0, if_neg w1_1, if_neg w1_2, if_neg w1_3, if_neg w1_4, if_pos w1_5] <;> rfl)
  by_cases w1_6 : x = 6
  · refine v_eqi 6 w1_6 ?_
    refine v_tableIn (off := 82) (tgt := 83) dX4_stream_1 (by decide) (by decide) (by decide) (by decide) ?_
    refine v_aload_n dX4_stream_83 rfl 0 rfl ?_
    refine v_get fX4_59 dX4_stream_84 0 rfl rfl ?_
    refine v_iconst (v := 0) dX4_stream_87 (by decide) ?_
    refine v_iald dX4_stream_88 4 rfl 0 rfl (by decide) (by decide) ?_
    refine v_eqi (mmb 0) (fl7_at _ (by decide)) ?_
    exact v_iretR dX4_stream_89 (by simp only [s_strm, if_neg w1_0, if_neg w1_1, if_neg w1_2, if_neg w1_3, if_neg w1_4, if_neg w1_5, if_pos w1_6] <;> rfl)
  refine v_tableOut (tgt := 90) dX4_stream_1 (by have q0 := lv_neT w1_0 (a := 0) (by decide); have q1 := lv_neT w1_1 (a := 1) (by decide); have q2 := lv_neT w1_2 (a := 2) (by decide); have q3 := lv_neT w1_3 (a := 3) (by decide); have q4 := lv_neT w1_4 (a := 4) (by decide); have q5 := lv_neT w1_5 (a := 5) (by decide); have q6 := lv_neT w1_6 (a := 6) (by decide); omega) (by decide) ?_
  refine v_bipush (v := (-100)) dX4_stream_90 (by decide) ?_
  exact v_iretR dX4_stream_92 (by simp only [s_strm, if_neg w1_0, if_neg w1_1, if_neg w1_2, if_neg w1_3, if_neg w1_4, if_neg w1_5, if_neg w1_6] <;> rfl)

theorem nI_of4 {x : Int32} (h : ¬ x < 0) (h2 : x < 60) : x = nI x.toNatClampNeg ∧ x.toNatClampNeg < 60 := by
  obtain ⟨j, hj, rfl⟩ := nI_of h
  rw [nI_clamp hj]
  exact ⟨rfl, (nI_ltI (b := 60) hj (by decide)).mp h2⟩

set_option maxRecDepth 100000 in
set_option maxHeartbeats 4000000 in
theorem c_X4_broken (l : Launch) (G : v_Cfg) (m0 : Nat) (md : Nat → Nat) (hk : Nat) (ho : Nat) (de : Nat) (fl : Int32) (ai : Int32) (rn : Int32) (rf : Int32) (rt : Int32) (bu : Int32) (bn : Nat) (lh : Nat → Int32) (ls : Nat → Int32) (lw : Nat → Int32) (x : Int32) (y : Int32)  : RdI l G yX4_broken cX4_broken 3 (some .int) 1 [.ref m0, .int x, .int y] [(m0, .inr (4, [.int (nI hk), .int (nI ho), .int (nI de), .int fl, .int ai, .int rn, .int rf, .int rt, .ref (md 8), .ref (md 9), .ref (md 10), .ref (md 11), .ref (md 12), .ref (md 13), .ref (md 14), .ref (md 15), .ref (md 16), .ref (md 17), .ref (md 18), .ref (md 19), .ref (md 20), .ref (md 21), .ref (md 22), .int bu, .int (nI bn), .ref (md 25), .ref (md 26), .ref (md 27), .ref (md 28)])), (md 25, .inl (G.2.1, 60, .inl lh)), (md 26, .inl (G.2.1, 60, .inl ls)), (md 27, .inl (G.2.1, 60, .inl lw))] (m_brk x y (s_in y 0 2) (nI bn) (lh x.toNatClampNeg) (ls x.toNatClampNeg) (lw x.toNatClampNeg) (nI bn)) := by
  refine RdI.of (own := RX4) (by decide) rfl (Nat.le_of_ble_eq_true rfl) (fun p e s m below meth c => ?_)
  refine v_iload_n dX4_broken_0 rfl 1 rfl ?_
  refine v_iconst (v := (-1)) dX4_broken_1 (by decide) ?_
  refine v_icmp_ne (tgt := 14) dX4_broken_2 (by decide) (fun h2 => ?_) (fun h2 => ?_)
  · skip
    refine v_iload_n dX4_broken_14 rfl 1 rfl ?_
    refine v_if_lt (tgt := 27) dX4_broken_15 (by decide) (fun h15 => ?_) (fun h15 => ?_)
    · skip
      refine v_iconst (v := (-1)) dX4_broken_27 (by decide) ?_
      exact v_iretR dX4_broken_28 (by simp only [m_brk, if_neg h2, if_pos h15] <;> rfl)
    · skip
      refine v_iload_n dX4_broken_18 rfl 2 rfl ?_
      refine v_iconst (v := 0) dX4_broken_19 (by decide) ?_
      refine v_iconst (v := 2) dX4_broken_20 (by decide) ?_
      refine v_sRd (As := [.int y, .int 0, .int 2]) (rest := []) (c_X4_in l G y 0 2 ) YX4_in mX4_77 dX4_broken_21 [] rfl rfl rfl (Nat.le_of_ble_eq_true rfl) (by decide) (by decide) ?_
      refine v_if_ne (tgt := 29) dX4_broken_24 (by decide) (fun h24 => ?_) (fun h24 => ?_)
      · skip
        refine v_iload_n dX4_broken_29 rfl 1 rfl ?_
        refine v_aload_n dX4_broken_30 rfl 0 rfl ?_
        refine v_get fX4_116 dX4_broken_31 0 rfl rfl ?_
        refine v_icmp_ge (tgt := 43) dX4_broken_34 (by decide) (fun h34 => ?_) (fun h34 => ?_)
        · skip
          refine v_bipush (v := (-4)) dX4_broken_43 (by decide) ?_
          exact v_iretR dX4_broken_45 (by simp only [m_brk, if_neg h2, if_neg h15, if_neg h24, if_pos h34] <;> rfl)
        · skip
          refine v_iload_n dX4_broken_37 rfl 1 rfl ?_
          refine v_bipush (v := 60) dX4_broken_38 (by decide) ?_
          refine v_icmp_lt (tgt := 46) dX4_broken_40 (by decide) (fun h40 => ?_) (fun h40 => ?_)
          · skip
            refine v_iload_n dX4_broken_46 rfl 2 rfl ?_
            refine v_if_ne (tgt := 59) dX4_broken_47 (by decide) (fun h47 => ?_) (fun h47 => ?_)
            · skip
              refine v_iload_n dX4_broken_59 rfl 2 rfl ?_
              refine v_iconst (v := 1) dX4_broken_60 (by decide) ?_
              refine v_icmp_ne (tgt := 73) dX4_broken_61 (by decide) (fun h61 => ?_) (fun h61 => ?_)
              · skip
                refine v_aload_n dX4_broken_73 rfl 0 rfl ?_
                refine v_get fX4_68 dX4_broken_74 0 rfl rfl ?_
                refine v_iload_n dX4_broken_77 rfl 1 rfl ?_
                refine v_iald dX4_broken_78 3 rfl x.toNatClampNeg ((nI_of4 h15 h40).1) ((nI_of4 h15 h40).2) (by decide) ?_
                exact v_iretR dX4_broken_79 (by simp only [m_brk, if_neg h2, if_neg h15, if_neg h24, if_neg h34, if_pos h40, if_neg h47, if_neg h61] <;> rfl)
              · skip
                refine v_aload_n dX4_broken_64 rfl 0 rfl ?_
                refine v_get fX4_65 dX4_broken_65 0 rfl rfl ?_
                refine v_iload_n dX4_broken_68 rfl 1 rfl ?_
                refine v_iald dX4_broken_69 2 rfl x.toNatClampNeg ((nI_of4 h15 h40).1) ((nI_of4 h15 h40).2) (by decide) ?_
                refine v_goto (tgt := 79) dX4_broken_70 (by decide) ?_
                exact v_iretR dX4_broken_79 (by simp only [m_brk, if_neg h2, if_neg h15, if_neg h24, if_neg h34, if_pos h40, if_neg h47, if_pos h61] <;> rfl)
            · skip
              refine v_aload_n dX4_broken_50 rfl 0 rfl ?_
              refine v_get fX4_62 dX4_broken_51 0 rfl rfl ?_
              refine v_iload_n dX4_broken_54 rfl 1 rfl ?_
              refine v_iald dX4_broken_55 1 rfl x.toNatClampNeg ((nI_of4 h15 h40).1) ((nI_of4 h15 h40).2) (by decide) ?_
              refine v_goto (tgt := 79) dX4_broken_56 (by decide) ?_
              exact v_iretR dX4_broken_79 (by simp only [m_brk, if_neg h2, if_neg h15, if_neg h24, if_neg h34, if_pos h40, if_pos h47] <;> rfl)
          · skip
            refine v_bipush (v := (-4)) dX4_broken_43 (by decide) ?_
            exact v_iretR dX4_broken_45 (by simp only [m_brk, if_neg h2, if_neg h15, if_neg h24, if_neg h34, if_neg h40] <;> rfl)
      · skip
        refine v_iconst (v := (-1)) dX4_broken_27 (by decide) ?_
        exact v_iretR dX4_broken_28 (by simp only [m_brk, if_neg h2, if_neg h15, if_pos h24] <;> rfl)
  · skip
    refine v_iload_n dX4_broken_5 rfl 2 rfl ?_
    refine v_if_ne (tgt := 14) dX4_broken_6 (by decide) (fun h6 => ?_) (fun h6 => ?_)
    · skip
      refine v_iload_n dX4_broken_14 rfl 1 rfl ?_
      refine v_if_lt (tgt := 27) dX4_broken_15 (by decide) (fun h15 => ?_) (fun h15 => absurd (show x < 0 by rw [h2]; decide) h15)
      refine v_iconst (v := (-1)) dX4_broken_27 (by decide) ?_
      exact v_iretR dX4_broken_28 (by simp only [m_brk, if_pos h2, if_neg h6, if_pos h15] <;> rfl)
    · skip
      refine v_aload_n dX4_broken_9 rfl 0 rfl ?_
      refine v_get fX4_116 dX4_broken_10 0 rfl rfl ?_
      exact v_iretR dX4_broken_13 (by simp only [m_brk, if_pos h2, if_pos h6] <;> rfl)

set_option maxRecDepth 100000 in
set_option maxHeartbeats 4000000 in
theorem c_X4_ofFarm (l : Launch) (G : v_Cfg) (m0 : Nat) (md : Nat → Nat) (hk : Nat) (ho : Nat) (de : Nat) (fl : Int32) (ai : Int32) (rn : Int32) (rf : Int32) (rt : Int32) (bu : Int32) (bn : Nat) (fn : Nat → Nat) (f : Nat → Nat → Int32) (b : Nat) (s_ : Nat) (x : Int32) (hk6 : hk ≤ 6) (hs : s_ < 7) : RdI l G yX4_ofFarm cX4_ofFarm 7 (some .int) 0 [.ref m0, .ref b, .int (nI s_), .int x] [(m0, .inr (4, [.int (nI hk), .int (nI ho), .int (nI de), .int fl, .int ai, .int rn, .int rf, .int rt, .ref (md 8), .ref (md 9), .ref (md 10), .ref (md 11), .ref (md 12), .ref (md 13), .ref (md 14), .ref (md 15), .ref (md 16), .ref (md 17), .ref (md 18), .ref (md 19), .ref (md 20), .ref (md 21), .ref (md 22), .int bu, .int (nI bn), .ref (md 25), .ref (md 26), .ref (md 27), .ref (md 28)])), (md 8, .inl (G.2.1, 6, .inl (pN fn))), (b, .inl (G.2.1, 168, .inl (fl24 f)))] (m_ofF (pN fn) (f s_) x hk) := by
  refine RdI.of (own := RX4) (by decide) rfl (Nat.le_of_ble_eq_true rfl) (fun p e s m below meth c => ?_)
  refine v_iconst (v := 0) dX4_ofFarm_0 (by decide) ?_
  refine v_istore (lv' := [(4, .int 0), (0, .ref m0), (1, .ref b), (2, .int (nI s_)), (3, .int x)]) dX4_ofFarm_1 (by decide) rfl ?_
  refine v_iconst (v := 0) dX4_ofFarm_3 (by decide) ?_
  refine v_istore (lv' := [(5, .int 0), (4, .int 0), (0, .ref m0), (1, .ref b), (2, .int (nI s_)), (3, .int x)]) dX4_ofFarm_4 (by decide) rfl ?_
  have loop6 : ∀ (k6 i : Nat), i + k6 = hk → V p l e (rmk 0) s m #[.ref m0, .ref b, .int (nI s_), .int x] below meth c (MQ below (vp_Si (fun vr => vr = (m_ofF (pN fn) (f s_) x hk))) #[.ref m0, .ref b, .int (nI s_), .int x] s 0 0 (fun _ => False)) G (v_Ir s) cX4_ofFarm RX4 7 (some .int) [(m0, .inr (4, [.int (nI hk), .int (nI ho), .int (nI de), .int fl, .int ai, .int rn, .int rf, .int rt, .ref (md 8), .ref (md 9), .ref (md 10), .ref (md 11), .ref (md 12), .ref (md 13), .ref (md 14), .ref (md 15), .ref (md 16), .ref (md 17), .ref (md 18), .ref (md 19), .ref (md 20), .ref (md 21), .ref (md 22), .int bu, .int (nI bn), .ref (md 25), .ref (md 26), .ref (md 27), .ref (md 28)])), (md 8, .inl (G.2.1, 6, .inl (pN fn))), (b, .inl (G.2.1, 168, .inl (fl24 f)))] 0 0 [(5, .int (nI i)), (4, .int (m_ofF (pN fn) (f s_) x i)), (0, .ref m0), (1, .ref b), (2, .int (nI s_)), (3, .int x)] 6 [] := by
    intro k6
    induction k6 with
    | zero =>
      intro i hi6
      have hi6 : i = hk := by omega
      rw [hi6]
      refine v_iload dX4_ofFarm_6 0 rfl ?_
      refine v_aload_n dX4_ofFarm_8 rfl 2 rfl ?_
      refine v_get fX4_74 dX4_ofFarm_9 0 rfl rfl ?_
      refine v_icmp_ge (tgt := 70) dX4_ofFarm_12 (by decide) (fun h12 => ?_) (fun h12 => absurd (nI_le (by omega) (by omega)) h12)
      refine v_iload dX4_ofFarm_70 1 rfl ?_
      exact v_iretR dX4_ofFarm_72 rfl
    | succ k6 ih6 =>
      intro i hi6
      refine v_iload dX4_ofFarm_6 0 rfl ?_
      refine v_aload_n dX4_ofFarm_8 rfl 2 rfl ?_
      refine v_get fX4_74 dX4_ofFarm_9 0 rfl rfl ?_
      refine v_icmp_ge (tgt := 70) dX4_ofFarm_12 (by decide) (fun h12 => absurd h12 (nI_ge (by omega) (by omega))) (fun h12 => ?_)
      refine v_iconst (v := 0) dX4_ofFarm_15 (by decide) ?_
      refine v_istore (lv' := [(6, .int 0), (5, .int (nI i)), (4, .int (m_ofF (pN fn) (f s_) x i)), (0, .ref m0), (1, .ref b), (2, .int (nI s_)), (3, .int x)]) dX4_ofFarm_16 (by decide) rfl ?_
      have loop18 : ∀ (k18 j : Nat), j + k18 = 4 → V p l e (rmk 0) s m #[.ref m0, .ref b, .int (nI s_), .int x] below meth c (MQ below (vp_Si (fun vr => vr = (m_ofF (pN fn) (f s_) x hk))) #[.ref m0, .ref b, .int (nI s_), .int x] s 0 0 (fun _ => False)) G (v_Ir s) cX4_ofFarm RX4 7 (some .int) [(m0, .inr (4, [.int (nI hk), .int (nI ho), .int (nI de), .int fl, .int ai, .int rn, .int rf, .int rt, .ref (md 8), .ref (md 9), .ref (md 10), .ref (md 11), .ref (md 12), .ref (md 13), .ref (md 14), .ref (md 15), .ref (md 16), .ref (md 17), .ref (md 18), .ref (md 19), .ref (md 20), .ref (md 21), .ref (md 22), .int bu, .int (nI bn), .ref (md 25), .ref (md 26), .ref (md 27), .ref (md 28)])), (md 8, .inl (G.2.1, 6, .inl (pN fn))), (b, .inl (G.2.1, 168, .inl (fl24 f)))] 0 0 [(6, .int (nI j)), (5, .int (nI i)), (4, .int (m_acc (m_ofF (pN fn) (f s_) x i) (pN fn i) x (f s_) i j)), (0, .ref m0), (1, .ref b), (2, .int (nI s_)), (3, .int x)] 18 [] := by
        intro k18
        induction k18 with
        | zero =>
          intro j hi18
          have hi18 : j = 4 := by omega
          rw [hi18]
          refine v_iload dX4_ofFarm_18 0 rfl ?_
          refine v_iconst (v := nI 4) dX4_ofFarm_20 (by decide) ?_
          refine v_icmp_ge (tgt := 64) dX4_ofFarm_21 (by decide) (fun h21 => ?_) (fun h21 => absurd (nI_le (by omega) (by omega)) h21)
          refine v_iinc (v := nI i + 1) (q := 1) (lv' := [(5, .int (nI i + 1)), (6, .int (nI 4)), (4, .int (m_acc (m_ofF (pN fn) (f s_) x i) (pN fn i) x (f s_) i 4)), (0, .ref m0), (1, .ref b), (2, .int (nI s_)), (3, .int x)]) dX4_ofFarm_64 rfl rfl (by decide) rfl ?_
          refine v_goto (tgt := 6) dX4_ofFarm_67 (by decide) ?_
          refine v_locals (lv' := [(5, .int (nI i + 1)), (4, .int (m_acc (m_ofF (pN fn) (f s_) x i) (pN fn i) x (f s_) i 4)), (0, .ref m0), (1, .ref b), (2, .int (nI s_)), (3, .int x)]) [0, 2, 3, 4, 5, 6] rfl ?_
          refine v_lveq (lv' := [(5, .int (nI (i + 1))), (4, .int (m_ofF (pN fn) (f s_) x (i + 1))), (0, .ref m0), (1, .ref b), (2, .int (nI s_)), (3, .int x)]) (v_l2 (fun (z0 : Int32) (z1 : Int32) => ([(5, .int z0), (4, .int z1), (0, .ref m0), (1, .ref b), (2, .int (nI s_)), (3, .int x)] : List (Nat × Value))) (nI_1 i) rfl) ?_
          exact ih6 (i + 1) (by omega)
        | succ k18 ih18 =>
          intro j hi18
          refine v_iload dX4_ofFarm_18 0 rfl ?_
          refine v_iconst (v := nI 4) dX4_ofFarm_20 (by decide) ?_
          refine v_icmp_ge (tgt := 64) dX4_ofFarm_21 (by decide) (fun h21 => absurd h21 (nI_ge (by omega) (by omega))) (fun h21 => ?_)
          refine v_iload dX4_ofFarm_24 2 rfl ?_
          refine v_aload_n dX4_ofFarm_26 rfl 3 rfl ?_
          refine v_get fX4_16 dX4_ofFarm_27 0 rfl rfl ?_
          refine v_iload dX4_ofFarm_30 1 rfl ?_
          refine v_iald dX4_ofFarm_32 1 rfl i rfl (by omega) (by decide) ?_
          refine v_iload_n dX4_ofFarm_33 rfl 6 rfl ?_
          refine v_icmp_ne (tgt := 54) dX4_ofFarm_34 (by decide) (fun h34 => ?_) (fun h34 => ?_)
          · skip
            refine v_iconst (v := 0) dX4_ofFarm_54 (by decide) ?_
            refine v_iadd dX4_ofFarm_55 ?_
            refine v_istore (lv' := [(4, .int ((m_acc (m_ofF (pN fn) (f s_) x i) (pN fn i) x (f s_) i j) + 0)), (6, .int (nI j)), (5, .int (nI i)), (0, .ref m0), (1, .ref b), (2, .int (nI s_)), (3, .int x)]) dX4_ofFarm_56 (by decide) rfl ?_
            refine v_iinc (v := nI j + 1) (q := 1) (lv' := [(6, .int (nI j + 1)), (4, .int ((m_acc (m_ofF (pN fn) (f s_) x i) (pN fn i) x (f s_) i j) + 0)), (5, .int (nI i)), (0, .ref m0), (1, .ref b), (2, .int (nI s_)), (3, .int x)]) dX4_ofFarm_58 rfl rfl (by decide) rfl ?_
            refine v_goto (tgt := 18) dX4_ofFarm_61 (by decide) ?_
            refine v_locals (lv' := [(6, .int (nI j + 1)), (5, .int (nI i)), (4, .int ((m_acc (m_ofF (pN fn) (f s_) x i) (pN fn i) x (f s_) i j) + 0)), (0, .ref m0), (1, .ref b), (2, .int (nI s_)), (3, .int x)]) [0, 2, 1, 3, 4, 5, 6] rfl ?_
            refine v_lveq (lv' := [(6, .int (nI (j + 1))), (5, .int (nI i)), (4, .int (m_acc (m_ofF (pN fn) (f s_) x i) (pN fn i) x (f s_) i (j + 1))), (0, .ref m0), (1, .ref b), (2, .int (nI s_)), (3, .int x)]) (v_l2 (fun (z0 : Int32) (z1 : Int32) => ([(6, .int z0), (5, .int (nI i)), (4, .int z1), (0, .ref m0), (1, .ref b), (2, .int (nI s_)), (3, .int x)] : List (Nat × Value))) (nI_1 j) (by simp only [m_acc, if_neg h34])) ?_
            exact ih18 (j + 1) (by omega)
          · skip
            refine v_aload_n dX4_ofFarm_37 rfl 4 rfl ?_
            refine v_bipush (v := nI 24) dX4_ofFarm_38 (by decide) ?_
            refine v_iload_n dX4_ofFarm_40 rfl 5 rfl ?_
            refine v_imul dX4_ofFarm_41 ?_
            refine v_iconst (v := nI 4) dX4_ofFarm_42 (by decide) ?_
            refine v_iload dX4_ofFarm_43 1 rfl ?_
            refine v_imul dX4_ofFarm_45 ?_
            refine v_iadd dX4_ofFarm_46 ?_
            refine v_iload dX4_ofFarm_47 0 rfl ?_
            refine v_iadd dX4_ofFarm_49 ?_
            refine v_eqi (nI (24 * s_ + (4 * i + j))) (by rw [pk_mul, pk_mul, nI_add, nI_add, Nat.add_assoc]) ?_
            refine v_iald dX4_ofFarm_50 2 rfl (24 * s_ + (4 * i + j)) rfl (by omega) (by decide) ?_
            refine v_eqi (f s_ (4 * i + j)) (fl24_at _ hs (by omega)) ?_
            refine v_goto (tgt := 55) dX4_ofFarm_51 (by decide) ?_
            refine v_iadd dX4_ofFarm_55 ?_
            refine v_istore (lv' := [(4, .int ((m_acc (m_ofF (pN fn) (f s_) x i) (pN fn i) x (f s_) i j) + (f s_ (4 * i + j)))), (6, .int (nI j)), (5, .int (nI i)), (0, .ref m0), (1, .ref b), (2, .int (nI s_)), (3, .int x)]) dX4_ofFarm_56 (by decide) rfl ?_
            refine v_iinc (v := nI j + 1) (q := 1) (lv' := [(6, .int (nI j + 1)), (4, .int ((m_acc (m_ofF (pN fn) (f s_) x i) (pN fn i) x (f s_) i j) + (f s_ (4 * i + j)))), (5, .int (nI i)), (0, .ref m0), (1, .ref b), (2, .int (nI s_)), (3, .int x)]) dX4_ofFarm_58 rfl rfl (by decide) rfl ?_
            refine v_goto (tgt := 18) dX4_ofFarm_61 (by decide) ?_
            refine v_locals (lv' := [(6, .int (nI j + 1)), (5, .int (nI i)), (4, .int ((m_acc (m_ofF (pN fn) (f s_) x i) (pN fn i) x (f s_) i j) + (f s_ (4 * i + j)))), (0, .ref m0), (1, .ref b), (2, .int (nI s_)), (3, .int x)]) [0, 2, 1, 3, 4, 5, 6] rfl ?_
            refine v_lveq (lv' := [(6, .int (nI (j + 1))), (5, .int (nI i)), (4, .int (m_acc (m_ofF (pN fn) (f s_) x i) (pN fn i) x (f s_) i (j + 1))), (0, .ref m0), (1, .ref b), (2, .int (nI s_)), (3, .int x)]) (v_l2 (fun (z0 : Int32) (z1 : Int32) => ([(6, .int z0), (5, .int (nI i)), (4, .int z1), (0, .ref m0), (1, .ref b), (2, .int (nI s_)), (3, .int x)] : List (Nat × Value))) (nI_1 j) (by simp only [m_acc, if_pos h34])) ?_
            exact ih18 (j + 1) (by omega)
      refine v_lveq (lv' := [(6, .int (nI 0)), (5, .int (nI i)), (4, .int (m_acc (m_ofF (pN fn) (f s_) x i) (pN fn i) x (f s_) i 0)), (0, .ref m0), (1, .ref b), (2, .int (nI s_)), (3, .int x)]) (v_l2 (fun (z0 : Int32) (z1 : Int32) => ([(6, .int z0), (5, .int (nI i)), (4, .int z1), (0, .ref m0), (1, .ref b), (2, .int (nI s_)), (3, .int x)] : List (Nat × Value))) nI_0.symm rfl) ?_
      exact loop18 4 0 (by omega)
  refine v_lveq (lv' := [(5, .int (nI 0)), (4, .int (m_ofF (pN fn) (f s_) x 0)), (0, .ref m0), (1, .ref b), (2, .int (nI s_)), (3, .int x)]) (v_l2 (fun (z0 : Int32) (z1 : Int32) => ([(5, .int z0), (4, .int z1), (0, .ref m0), (1, .ref b), (2, .int (nI s_)), (3, .int x)] : List (Nat × Value))) nI_0.symm rfl) ?_
  exact loop6 hk 0 (by omega)

set_option maxRecDepth 100000 in
set_option maxHeartbeats 4000000 in
theorem c_X4_farm (l : Launch) (G : v_Cfg) (m0 : Nat) (md : Nat → Nat) (hk : Nat) (ho : Nat) (de : Nat) (fl : Int32) (ai : Int32) (rn : Int32) (rf : Int32) (rt : Int32) (bu : Int32) (bn : Nat) (fn : Nat → Nat) (mgr : Nat → Nat → Int32) (mwe : Nat → Nat → Int32) (mea : Nat → Nat → Int32) (lt : Nat → Int32) (x : Int32) (y : Int32) (hk6 : hk ≤ 6) : RdI l G yX4_farm cX4_farm 3 (some .int) 1 [.ref m0, .int x, .int y] [(m0, .inr (4, [.int (nI hk), .int (nI ho), .int (nI de), .int fl, .int ai, .int rn, .int rf, .int rt, .ref (md 8), .ref (md 9), .ref (md 10), .ref (md 11), .ref (md 12), .ref (md 13), .ref (md 14), .ref (md 15), .ref (md 16), .ref (md 17), .ref (md 18), .ref (md 19), .ref (md 20), .ref (md 21), .ref (md 22), .int bu, .int (nI bn), .ref (md 25), .ref (md 26), .ref (md 27), .ref (md 28)])), (md 8, .inl (G.2.1, 6, .inl (pN fn))), (md 15, .inl (G.2.1, 168, .inl (fl24 mgr))), (md 17, .inl (G.2.1, 168, .inl (fl24 mwe))), (md 19, .inl (G.2.1, 168, .inl (fl24 mea))), (md 28, .inl (G.2.1, 4, .inl lt))] (m_frm (s_in x 0 3) (s_in y 0 3) y (m_ofF (pN fn) (mgr 0) x hk) (m_ofF (pN fn) (mea 0) x hk) (m_ofF (pN fn) (mwe 0) x hk) (lt x.toNatClampNeg)) := by
  refine RdI.of (own := RX4) (by decide) rfl (Nat.le_of_ble_eq_true rfl) (fun p e s m below meth c => ?_)
  refine v_iload_n dX4_farm_0 rfl 1 rfl ?_
  refine v_iconst (v := 0) dX4_farm_1 (by decide) ?_
  refine v_iconst (v := 3) dX4_farm_2 (by decide) ?_
  refine v_sRd (As := [.int x, .int 0, .int 3]) (rest := []) (c_X4_in l G x 0 3 ) YX4_in mX4_77 dX4_farm_3 [] rfl rfl rfl (Nat.le_of_ble_eq_true rfl) (by decide) (by decide) ?_
  refine v_if_eq (tgt := 18) dX4_farm_6 (by decide) (fun h6 => ?_) (fun h6 => ?_)
  · skip
    refine v_iconst (v := (-1)) dX4_farm_18 (by decide) ?_
    exact v_iretR dX4_farm_19 (by simp only [m_frm, if_pos h6] <;> rfl)
  · skip
    refine v_iload_n dX4_farm_9 rfl 2 rfl ?_
    refine v_iconst (v := 0) dX4_farm_10 (by decide) ?_
    refine v_iconst (v := 3) dX4_farm_11 (by decide) ?_
    refine v_sRd (As := [.int y, .int 0, .int 3]) (rest := []) (c_X4_in l G y 0 3 ) YX4_in mX4_77 dX4_farm_12 [] rfl rfl rfl (Nat.le_of_ble_eq_true rfl) (by decide) (by decide) ?_
    refine v_if_ne (tgt := 20) dX4_farm_15 (by decide) (fun h15 => ?_) (fun h15 => ?_)
    · skip
      refine v_iload_n dX4_farm_20 rfl 2 rfl ?_
      refine v_if_ne (tgt := 37) dX4_farm_21 (by decide) (fun h21 => ?_) (fun h21 => ?_)
      · skip
        refine v_iload_n dX4_farm_37 rfl 2 rfl ?_
        refine v_iconst (v := 1) dX4_farm_38 (by decide) ?_
        refine v_icmp_ne (tgt := 55) dX4_farm_39 (by decide) (fun h39 => ?_) (fun h39 => ?_)
        · skip
          refine v_iload_n dX4_farm_55 rfl 2 rfl ?_
          refine v_iconst (v := 2) dX4_farm_56 (by decide) ?_
          refine v_icmp_ne (tgt := 73) dX4_farm_57 (by decide) (fun h57 => ?_) (fun h57 => ?_)
          · skip
            refine v_aload_n dX4_farm_73 rfl 0 rfl ?_
            refine v_get fX4_71 dX4_farm_74 0 rfl rfl ?_
            refine v_iload_n dX4_farm_77 rfl 1 rfl ?_
            refine v_iald dX4_farm_78 5 rfl x.toNatClampNeg ((s_in_ix (a := 0) (b := 3) h6 rfl rfl (by decide) (by decide)).1) (Nat.lt_succ_of_le (s_in_ix (a := 0) (b := 3) h6 rfl rfl (by decide) (by decide)).2.2) (by decide) ?_
            exact v_iretR dX4_farm_79 (by simp only [m_frm, if_neg h6, if_neg h15, if_neg h21, if_neg h39, if_neg h57] <;> rfl)
          · skip
            refine v_aload_n dX4_farm_60 rfl 0 rfl ?_
            refine v_aload_n dX4_farm_61 rfl 0 rfl ?_
            refine v_get fX4_44 dX4_farm_62 0 rfl rfl ?_
            refine v_iconst (v := nI 0) dX4_farm_65 (by decide) ?_
            refine v_iload_n dX4_farm_66 rfl 1 rfl ?_
            refine v_vRd (As := [.ref (md 17), .int (nI 0), .int x]) (rest := []) (c_X4_ofFarm l G m0 md hk ho de fl ai rn rf rt bu bn fn mwe (md 17) 0 x hk6 (by decide)) YX4_ofFarm mX4_137 dX4_farm_67 ciX4 0 rfl [0, 1, 3] rfl rfl rfl (Nat.le_of_ble_eq_true rfl) (by decide) (by decide) ?_
            refine v_goto (tgt := 79) dX4_farm_70 (by decide) ?_
            exact v_iretR dX4_farm_79 (by simp only [m_frm, if_neg h6, if_neg h15, if_neg h21, if_neg h39, if_pos h57] <;> rfl)
        · skip
          refine v_aload_n dX4_farm_42 rfl 0 rfl ?_
          refine v_aload_n dX4_farm_43 rfl 0 rfl ?_
          refine v_get fX4_50 dX4_farm_44 0 rfl rfl ?_
          refine v_iconst (v := nI 0) dX4_farm_47 (by decide) ?_
          refine v_iload_n dX4_farm_48 rfl 1 rfl ?_
          refine v_vRd (As := [.ref (md 19), .int (nI 0), .int x]) (rest := []) (c_X4_ofFarm l G m0 md hk ho de fl ai rn rf rt bu bn fn mea (md 19) 0 x hk6 (by decide)) YX4_ofFarm mX4_137 dX4_farm_49 ciX4 0 rfl [0, 1, 4] rfl rfl rfl (Nat.le_of_ble_eq_true rfl) (by decide) (by decide) ?_
          refine v_goto (tgt := 79) dX4_farm_52 (by decide) ?_
          exact v_iretR dX4_farm_79 (by simp only [m_frm, if_neg h6, if_neg h15, if_neg h21, if_pos h39] <;> rfl)
      · skip
        refine v_aload_n dX4_farm_24 rfl 0 rfl ?_
        refine v_aload_n dX4_farm_25 rfl 0 rfl ?_
        refine v_get fX4_38 dX4_farm_26 0 rfl rfl ?_
        refine v_iconst (v := nI 0) dX4_farm_29 (by decide) ?_
        refine v_iload_n dX4_farm_30 rfl 1 rfl ?_
        refine v_vRd (As := [.ref (md 15), .int (nI 0), .int x]) (rest := []) (c_X4_ofFarm l G m0 md hk ho de fl ai rn rf rt bu bn fn mgr (md 15) 0 x hk6 (by decide)) YX4_ofFarm mX4_137 dX4_farm_31 ciX4 0 rfl [0, 1, 2] rfl rfl rfl (Nat.le_of_ble_eq_true rfl) (by decide) (by decide) ?_
        refine v_goto (tgt := 79) dX4_farm_34 (by decide) ?_
        exact v_iretR dX4_farm_79 (by simp only [m_frm, if_neg h6, if_neg h15, if_pos h21] <;> rfl)
    · skip
      refine v_iconst (v := (-1)) dX4_farm_18 (by decide) ?_
      exact v_iretR dX4_farm_19 (by simp only [m_frm, if_neg h6, if_pos h15] <;> rfl)

set_option maxRecDepth 100000 in
set_option maxHeartbeats 4000000 in
theorem c_X4_without (l : Launch) (G : v_Cfg) (m0 : Nat) (md : Nat → Nat) (hk : Nat) (ho : Nat) (de : Nat) (fl : Int32) (ai : Int32) (rn : Int32) (rf : Int32) (rt : Int32) (bu : Int32) (bn : Nat) (fn : Nat → Nat) (mgr : Nat → Nat → Int32) (mmi : Nat → Int32) (mmb : Nat → Int32) (x : Int32) (y : Int32) (hk6 : hk ≤ 6) : RdI l G yX4_without cX4_without 3 (some .int) 2 [.ref m0, .int x, .int y] [(m0, .inr (4, [.int (nI hk), .int (nI ho), .int (nI de), .int fl, .int ai, .int rn, .int rf, .int rt, .ref (md 8), .ref (md 9), .ref (md 10), .ref (md 11), .ref (md 12), .ref (md 13), .ref (md 14), .ref (md 15), .ref (md 16), .ref (md 17), .ref (md 18), .ref (md 19), .ref (md 20), .ref (md 21), .ref (md 22), .int bu, .int (nI bn), .ref (md 25), .ref (md 26), .ref (md 27), .ref (md 28)])), (md 8, .inl (G.2.1, 6, .inl (pN fn))), (md 15, .inl (G.2.1, 168, .inl (fl24 mgr))), (md 20, .inl (G.2.1, 7, .inl (fl7 mmi))), (md 22, .inl (G.2.1, 7, .inl (fl7 mmb)))] (if s_ish x (nI hk) = 0 then -1 else s_wo (s_in y 0 5) y (mmi (x.toNatClampNeg + 1)) (mmb (x.toNatClampNeg + 1)) (m_ofF (pN fn) (mgr (x.toNatClampNeg + 1)) (y - 2) hk)) := by
  refine RdI.of (own := RX4) (by decide) rfl (Nat.le_of_ble_eq_true rfl) (fun p e s m below meth c => ?_)
  refine v_aload_n dX4_without_0 rfl 0 rfl ?_
  refine v_iload_n dX4_without_1 rfl 1 rfl ?_
  refine v_vRd (As := [.int x]) (rest := []) (c_X4_isHatch l G m0 md hk ho de fl ai rn rf rt bu bn x hk6) YX4_isHatch mX4_88 dX4_without_2 ciX4 0 rfl [0] rfl rfl rfl (Nat.le_of_ble_eq_true rfl) (by decide) (by decide) ?_
  refine v_if_eq (tgt := 17) dX4_without_5 (by decide) (fun h5 => ?_) (fun h5 => ?_)
  · skip
    refine v_iconst (v := (-1)) dX4_without_17 (by decide) ?_
    exact v_iretR dX4_without_18 (by simp only [s_wo, if_pos h5] <;> rfl)
  · skip
    refine v_iload_n dX4_without_8 rfl 2 rfl ?_
    refine v_iconst (v := 0) dX4_without_9 (by decide) ?_
    refine v_iconst (v := 5) dX4_without_10 (by decide) ?_
    refine v_sRd (As := [.int y, .int 0, .int 5]) (rest := []) (c_X4_in l G y 0 5 ) YX4_in mX4_77 dX4_without_11 [] rfl rfl rfl (Nat.le_of_ble_eq_true rfl) (by decide) (by decide) ?_
    refine v_if_ne (tgt := 19) dX4_without_14 (by decide) (fun h14 => ?_) (fun h14 => ?_)
    · skip
      refine v_iload_n dX4_without_19 rfl 2 rfl ?_
      refine v_if_ne (tgt := 34) dX4_without_20 (by decide) (fun h20 => ?_) (fun h20 => ?_)
      · skip
        refine v_iload_n dX4_without_34 rfl 2 rfl ?_
        refine v_iconst (v := 1) dX4_without_35 (by decide) ?_
        refine v_icmp_ne (tgt := 50) dX4_without_36 (by decide) (fun h36 => ?_) (fun h36 => ?_)
        · skip
          refine v_aload_n dX4_without_50 rfl 0 rfl ?_
          refine v_aload_n dX4_without_51 rfl 0 rfl ?_
          refine v_get fX4_38 dX4_without_52 0 rfl rfl ?_
          refine v_iload_n dX4_without_55 rfl 1 rfl ?_
          refine v_iconst (v := 1) dX4_without_56 (by decide) ?_
          refine v_iadd dX4_without_57 ?_
          refine v_eqi (nI (x.toNatClampNeg + 1)) (((congrArg (· + 1) (s_ish_ix hk6 h5).1).trans (nI_1 _))) ?_
          refine v_iload_n dX4_without_58 rfl 2 rfl ?_
          refine v_iconst (v := 2) dX4_without_59 (by decide) ?_
          refine v_isub dX4_without_60 ?_
          refine v_vRd (As := [.ref (md 15), .int (nI (x.toNatClampNeg + 1)), .int (y - 2)]) (rest := []) (c_X4_ofFarm l G m0 md hk ho de fl ai rn rf rt bu bn fn mgr (md 15) (x.toNatClampNeg + 1) (y - 2) hk6 (by have := (s_ish_ix hk6 h5).2; omega)) YX4_ofFarm mX4_137 dX4_without_61 ciX4 0 rfl [0, 1, 2] rfl rfl rfl (Nat.le_of_ble_eq_true rfl) (by decide) (by decide) ?_
          exact v_iretR dX4_without_64 (by simp only [s_wo, if_neg h5, if_neg h14, if_neg h20, if_neg h36] <;> rfl)
        · skip
          refine v_aload_n dX4_without_39 rfl 0 rfl ?_
          refine v_get fX4_59 dX4_without_40 0 rfl rfl ?_
          refine v_iload_n dX4_without_43 rfl 1 rfl ?_
          refine v_iconst (v := 1) dX4_without_44 (by decide) ?_
          refine v_iadd dX4_without_45 ?_
          refine v_iald dX4_without_46 4 rfl (x.toNatClampNeg + 1) (((congrArg (· + 1) (s_ish_ix hk6 h5).1).trans (nI_1 _))) (by have := (s_ish_ix hk6 h5).2; omega) (by decide) ?_
          refine v_eqi (mmb (x.toNatClampNeg + 1)) (fl7_at _ (by have := (s_ish_ix hk6 h5).2; omega)) ?_
          refine v_goto (tgt := 64) dX4_without_47 (by decide) ?_
          exact v_iretR dX4_without_64 (by simp only [s_wo, if_neg h5, if_neg h14, if_neg h20, if_pos h36] <;> rfl)
      · skip
        refine v_aload_n dX4_without_23 rfl 0 rfl ?_
        refine v_get fX4_53 dX4_without_24 0 rfl rfl ?_
        refine v_iload_n dX4_without_27 rfl 1 rfl ?_
        refine v_iconst (v := 1) dX4_without_28 (by decide) ?_
        refine v_iadd dX4_without_29 ?_
        refine v_iald dX4_without_30 3 rfl (x.toNatClampNeg + 1) (((congrArg (· + 1) (s_ish_ix hk6 h5).1).trans (nI_1 _))) (by have := (s_ish_ix hk6 h5).2; omega) (by decide) ?_
        refine v_eqi (mmi (x.toNatClampNeg + 1)) (fl7_at _ (by have := (s_ish_ix hk6 h5).2; omega)) ?_
        refine v_goto (tgt := 64) dX4_without_31 (by decide) ?_
        exact v_iretR dX4_without_64 (by simp only [s_wo, if_neg h5, if_neg h14, if_pos h20] <;> rfl)
    · skip
      refine v_iconst (v := (-1)) dX4_without_17 (by decide) ?_
      exact v_iretR dX4_without_18 (by simp only [s_wo, if_neg h5, if_pos h14] <;> rfl)

set_option maxRecDepth 100000 in
set_option maxHeartbeats 4000000 in
theorem c_X4_count (l : Launch) (G : v_Cfg) (m0 : Nat) (md : Nat → Nat) (hk : Nat) (ho : Nat) (de : Nat) (fl : Int32) (ai : Int32) (rn : Int32) (rf : Int32) (rt : Int32) (bu : Int32) (bn : Nat) (x : Int32)  : RdI l G yX4_count cX4_count 2 (some .int) 0 [.ref m0, .int x] [(m0, .inr (4, [.int (nI hk), .int (nI ho), .int (nI de), .int fl, .int ai, .int rn, .int rf, .int rt, .ref (md 8), .ref (md 9), .ref (md 10), .ref (md 11), .ref (md 12), .ref (md 13), .ref (md 14), .ref (md 15), .ref (md 16), .ref (md 17), .ref (md 18), .ref (md 19), .ref (md 20), .ref (md 21), .ref (md 22), .int bu, .int (nI bn), .ref (md 25), .ref (md 26), .ref (md 27), .ref (md 28)]))] (s_cnt x (nI hk) (nI ho) (nI de)) := by
  refine RdI.of (own := RX4) (by decide) rfl (Nat.le_of_ble_eq_true rfl) (fun p e s m below meth c => ?_)
  refine v_iload_n dX4_count_0 rfl 1 rfl ?_
  refine v_if_ne (tgt := 11) dX4_count_1 (by decide) (fun h1 => ?_) (fun h1 => ?_)
  · skip
    refine v_iload_n dX4_count_11 rfl 1 rfl ?_
    refine v_iconst (v := 1) dX4_count_12 (by decide) ?_
    refine v_icmp_ne (tgt := 23) dX4_count_13 (by decide) (fun h13 => ?_) (fun h13 => ?_)
    · skip
      refine v_iload_n dX4_count_23 rfl 1 rfl ?_
      refine v_iconst (v := 2) dX4_count_24 (by decide) ?_
      refine v_icmp_ne (tgt := 35) dX4_count_25 (by decide) (fun h25 => ?_) (fun h25 => ?_)
      · skip
        refine v_iconst (v := (-1)) dX4_count_35 (by decide) ?_
        exact v_iretR dX4_count_36 (by simp only [s_cnt, if_neg h1, if_neg h13, if_neg h25] <;> rfl)
      · skip
        refine v_aload_n dX4_count_28 rfl 0 rfl ?_
        refine v_get fX4_81 dX4_count_29 0 rfl rfl ?_
        refine v_goto (tgt := 36) dX4_count_32 (by decide) ?_
        exact v_iretR dX4_count_36 (by simp only [s_cnt, if_neg h1, if_neg h13, if_pos h25] <;> rfl)
    · skip
      refine v_aload_n dX4_count_16 rfl 0 rfl ?_
      refine v_get fX4_113 dX4_count_17 0 rfl rfl ?_
      refine v_goto (tgt := 36) dX4_count_20 (by decide) ?_
      exact v_iretR dX4_count_36 (by simp only [s_cnt, if_neg h1, if_pos h13] <;> rfl)
  · skip
    refine v_aload_n dX4_count_4 rfl 0 rfl ?_
    refine v_get fX4_74 dX4_count_5 0 rfl rfl ?_
    refine v_goto (tgt := 36) dX4_count_8 (by decide) ?_
    exact v_iretR dX4_count_36 (by simp only [s_cnt, if_pos h1] <;> rfl)

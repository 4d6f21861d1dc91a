/-! ===== the reference's judgement and hours ===== -/
theorem or64 : ∀ a, a < 64 → ∀ b, b < 64 → nI a ||| nI b = nI (a ||| b) := by decide +kernel
theorem bit6 : ∀ i, i < 6 → (1 : Int32) <<< (nI i &&& 31) = nI (2 ^ i) := by decide +kernel
theorem nB_or {a b : Int32} (ha : nB 63 a) (hb : nB 63 b) : nB 63 (a ||| b) := by
  obtain ⟨m, hm, rfl⟩ := ha
  obtain ⟨n, hn, rfl⟩ := hb
  rw [or64 m (by omega) n (by omega)]
  exact ⟨_, Nat.le_of_lt_succ (Nat.or_lt_two_pow (n := 6) (by omega) (by omega)), rfl⟩
theorem nB_bit {i : Nat} (h : i < 6) : nB 63 ((1 : Int32) <<< (nI i &&& 31)) := by
  rw [bit6 i h]
  refine ⟨2 ^ i, ?_, rfl⟩
  rcases (show i = 0 ∨ i = 1 ∨ i = 2 ∨ i = 3 ∨ i = 4 ∨ i = 5 by omega) with rfl | rfl | rfl | rfl | rfl | rfl <;> decide
theorem s_jrun_br (tk : Nat → Int32) (fn : Nat → Nat) (fl ai hr : Int32) (J : JS) (hJ : nB 63 (J_br J)) : ∀ h, h ≤ 6 → nB 63 (J_br (s_jrun tk fn fl ai hr h J)) := by
  intro h
  induction h with
  | zero => intro _; exact hJ
  | succ h ih =>
    intro hh
    have q := ih (by omega)
    show nB 63 (J_br (s_jst tk fn fl ai hr h (s_jrun tk fn fl ai hr h J)))
    unfold s_jst
    split
    · exact q
    · split
      · exact q
      · exact nB_or q (nB_bit (by omega))
theorem s_out_law {fa fl ai hr : Int32} (h : ¬ fl ≤ 400) : s_out fa fl ai hr = 0 := by
  unfold s_out s_law
  rw [if_neg h]
  split
  · rfl
  · split
    · rfl
    · rfl
theorem s_jrun_law (tk : Nat → Int32) (fn : Nat → Nat) {fl : Int32} (ai hr : Int32) (J : JS) (hf : ¬ fl ≤ 400) : ∀ h, J_lh (s_jrun tk fn fl ai hr h J) = J_lh J ∧ J_ls (s_jrun tk fn fl ai hr h J) = J_ls J ∧ J_lw (s_jrun tk fn fl ai hr h J) = J_lw J ∧ J_lt (s_jrun tk fn fl ai hr h J) = J_lt J ∧ J_bn (s_jrun tk fn fl ai hr h J) = J_bn J := by
  intro h
  induction h with
  | zero => exact ⟨rfl, rfl, rfl, rfl, rfl⟩
  | succ h ih =>
    have e : s_jrun tk fn fl ai hr (h + 1) J = s_jst tk fn fl ai hr h (s_jrun tk fn fl ai hr h J) := rfl
    rw [e]
    unfold s_jst
    split
    · exact ih
    · rw [if_pos (s_out_law hf)]
      exact ih
theorem mill_no {am r hr : Int32} {J : JS} (h : r ≤ am) : s_mill (s_short am r) hr J = J := by
  unfold s_mill s_short
  rw [if_pos h, if_pos rfl]
theorem mill_yes {am r hr : Int32} {J : JS} (h : ¬ r ≤ am) : s_mill (s_short am r) hr J = (s_ent (J_bn J) (J_lh J) hr, s_ent (J_bn J) (J_ls J) 2, s_ent (J_bn J) (J_lw J) (s_who J), J_lt J, J_bn J + 1, J_ta J, J_br J) := by
  unfold s_mill s_short
  rw [if_neg h, if_neg (by decide)]
theorem who_a {J : JS} (h : J_br J ≤ 0) (hb : nB 63 (J_br J)) : J_ta J = s_who J := by
  unfold s_who
  obtain ⟨n, hn, e⟩ := hb
  rw [if_pos]
  rw [e] at h ⊢
  have : n ≤ 0 := (nI_leI (b := 0) (by omega) (by omega)).mp h
  rw [show n = 0 by omega]; rfl
theorem who_b {J : JS} (h : ¬ J_br J ≤ 0) : J_br J = s_who J := by
  unfold s_who
  rw [if_neg]
  intro e
  exact h (by rw [e]; decide)
theorem sl_map {α β : Type} (f : α → β) (F : Nat → α) (s : Nat) (g : α) : (fun t => f (sl F s g t)) = sl (fun t => f (F t)) s (f g) := by
  funext t; unfold sl; split <;> rfl
theorem sl_mapU {α : Type} (f : α → Int32) (F : Nat → α) (s : Nat) (g : α) : (fun t => f (sl F s g t)) = upd (fun t => f (F t)) s (f g) := by
  funext t; unfold sl upd; split <;> rfl
/-- the seven streams, one after the other -/
def m_seq (p : Nat → CS → CS) (cs : Nat → CS) : Nat → Nat → CS
  | 0 => cs
  | k + 1 => sl (m_seq p cs k) k (p k (m_seq p cs k k))
theorem m_seq_at (p : Nat → CS → CS) (cs : Nat → CS) (k s : Nat) : m_seq p cs k s = if s < k then p s (cs s) else cs s := by
  induction k generalizing s with
  | zero => rw [if_neg (by omega)]; rfl
  | succ k ih =>
    show sl (m_seq p cs k) k (p k (m_seq p cs k k)) s = _
    unfold sl
    by_cases h : s = k
    · subst h
      rw [if_pos rfl, if_pos (by omega), ih, if_neg (by omega)]
    · rw [if_neg h, ih]
      by_cases h2 : s < k
      · rw [if_pos h2, if_pos (by omega)]
      · rw [if_neg h2, if_neg (by omega)]

set_option maxRecDepth 100000 in
set_option maxHeartbeats 4000000 in
theorem c_X4_judges (l : Launch) (G : v_Cfg) (m0 : Nat) (md : Nat → Nat) (hk : Nat) (ho : Nat) (de : Nat) (fl : Int32) (ai : Int32) (rn : Int32) (rf : Int32) (rt : Int32) (bu : Int32) (bn : Nat) (fn : Nat → Nat) (mtk : Nat → Nat → Int32) (mla : Nat → Int32) (lh : Nat → Int32) (ls : Nat → Int32) (lw : Nat → Int32) (lt : Nat → Int32) (hk6 : hk ≤ 6) (hfn : ∀ h, h < hk → fn h < 4) (hbn : bn < 900000) (hla : nB 1000 (mla 0)) : MuV l G yX4_judges cX4_judges 5 none 1 [.ref m0] [(m0, .inr (4, [.int (nI hk), .int (nI ho), .int (nI de), .int fl, .int ai, .int rn, .int rf, .int rt, .ref (md 8), .ref (md 9), .ref (md 10), .ref (md 11), .ref (md 12), .ref (md 13), .ref (md 14), .ref (md 15), .ref (md 16), .ref (md 17), .ref (md 18), .ref (md 19), .ref (md 20), .ref (md 21), .ref (md 22), .int bu, .int (nI bn), .ref (md 25), .ref (md 26), .ref (md 27), .ref (md 28)])), (md 8, .inl (G.2.1, 6, .inl (pN fn))), (md 14, .inl (G.2.1, 42, .inl (fl6 mtk))), (md 21, .inl (G.2.1, 7, .inl (fl7 mla))), (md 25, .inl (G.2.1, 60, .inl lh)), (md 26, .inl (G.2.1, 60, .inl ls)), (md 27, .inl (G.2.1, 60, .inl lw)), (md 28, .inl (G.2.1, 4, .inl lt))] [(m0, .inr (4, [.int (nI hk), .int (nI ho), .int (nI de), .int fl, .int ai, .int rn, .int rf, .int rt, .ref (md 8), .ref (md 9), .ref (md 10), .ref (md 11), .ref (md 12), .ref (md 13), .ref (md 14), .ref (md 15), .ref (md 16), .ref (md 17), .ref (md 18), .ref (md 19), .ref (md 20), .ref (md 21), .ref (md 22), .int bu, .int (nI (J_bn (s_mill (s_short (mla 0) (s_ra fl rn rf rt (nI ho))) (nI ho) (s_jrun (mtk 0) fn fl ai (nI ho) hk (lh, ls, lw, lt, bn, 0, 0))))), .ref (md 25), .ref (md 26), .ref (md 27), .ref (md 28)])), (md 8, .inl (G.2.1, 6, .inl (pN fn))), (md 14, .inl (G.2.1, 42, .inl (fl6 mtk))), (md 21, .inl (G.2.1, 7, .inl (fl7 mla))), (md 25, .inl (G.2.1, 60, .inl (J_lh (s_mill (s_short (mla 0) (s_ra fl rn rf rt (nI ho))) (nI ho) (s_jrun (mtk 0) fn fl ai (nI ho) hk (lh, ls, lw, lt, bn, 0, 0)))))), (md 26, .inl (G.2.1, 60, .inl (J_ls (s_mill (s_short (mla 0) (s_ra fl rn rf rt (nI ho))) (nI ho) (s_jrun (mtk 0) fn fl ai (nI ho) hk (lh, ls, lw, lt, bn, 0, 0)))))), (md 27, .inl (G.2.1, 60, .inl (J_lw (s_mill (s_short (mla 0) (s_ra fl rn rf rt (nI ho))) (nI ho) (s_jrun (mtk 0) fn fl ai (nI ho) hk (lh, ls, lw, lt, bn, 0, 0)))))), (md 28, .inl (G.2.1, 4, .inl (J_lt (s_mill (s_short (mla 0) (s_ra fl rn rf rt (nI ho))) (nI ho) (s_jrun (mtk 0) fn fl ai (nI ho) hk (lh, ls, lw, lt, bn, 0, 0))))))] := by
  refine MuV.of (own := RX4) (by decide) rfl (Nat.le_of_ble_eq_true rfl) (fun p e s m below meth c => ?_)
  refine v_aload_n dX4_judges_0 rfl 0 rfl ?_
  refine v_get fX4_7 dX4_judges_1 0 rfl rfl ?_
  refine v_sipush (v := 400) dX4_judges_4 (by decide) ?_
  refine v_icmp_le (tgt := 11) dX4_judges_7 (by decide) (fun h7 => ?_) (fun h7 => ?_)
  · skip
    refine v_iconst (v := 0) dX4_judges_11 (by decide) ?_
    refine v_istore_n (lv' := [(1, .int 0), (0, .ref m0)]) dX4_judges_12 rfl (by decide) rfl ?_
    refine v_iconst (v := 0) dX4_judges_13 (by decide) ?_
    refine v_istore_n (lv' := [(2, .int 0), (1, .int 0), (0, .ref m0)]) dX4_judges_14 rfl (by decide) rfl ?_
    refine v_iconst (v := 0) dX4_judges_15 (by decide) ?_
    refine v_istore_n (lv' := [(3, .int 0), (2, .int 0), (1, .int 0), (0, .ref m0)]) dX4_judges_16 rfl (by decide) rfl ?_
    have hlw : s_law fl = 0 := by simp only [s_law, if_pos h7]
    have hjb : ∀ i, J_bn (s_jrun (mtk 0) fn fl ai (nI ho) i (lh, ls, lw, lt, bn, 0, 0)) ≤ bn + i := fun i => s_jrun_bn _ _ _ _ _ _ _
    have loop17 : ∀ (k17 i : Nat), i + k17 = hk → V p l e (rmk 1) s m #[.ref m0] below meth c (MQ below (v_Qv G [(m0, .inr (4, [.int (nI hk), .int (nI ho), .int (nI de), .int fl, .int ai, .int rn, .int rf, .int rt, .ref (md 8), .ref (md 9), .ref (md 10), .ref (md 11), .ref (md 12), .ref (md 13), .ref (md 14), .ref (md 15), .ref (md 16), .ref (md 17), .ref (md 18), .ref (md 19), .ref (md 20), .ref (md 21), .ref (md 22), .int bu, .int (nI bn), .ref (md 25), .ref (md 26), .ref (md 27), .ref (md 28)])), (md 8, .inl (G.2.1, 6, .inl (pN fn))), (md 14, .inl (G.2.1, 42, .inl (fl6 mtk))), (md 21, .inl (G.2.1, 7, .inl (fl7 mla))), (md 25, .inl (G.2.1, 60, .inl lh)), (md 26, .inl (G.2.1, 60, .inl ls)), (md 27, .inl (G.2.1, 60, .inl lw)), (md 28, .inl (G.2.1, 4, .inl lt))] [(m0, .inr (4, [.int (nI hk), .int (nI ho), .int (nI de), .int fl, .int ai, .int rn, .int rf, .int rt, .ref (md 8), .ref (md 9), .ref (md 10), .ref (md 11), .ref (md 12), .ref (md 13), .ref (md 14), .ref (md 15), .ref (md 16), .ref (md 17), .ref (md 18), .ref (md 19), .ref (md 20), .ref (md 21), .ref (md 22), .int bu, .int (nI (J_bn (s_mill (s_short (mla 0) (s_ra fl rn rf rt (nI ho))) (nI ho) (s_jrun (mtk 0) fn fl ai (nI ho) hk (lh, ls, lw, lt, bn, 0, 0))))), .ref (md 25), .ref (md 26), .ref (md 27), .ref (md 28)])), (md 8, .inl (G.2.1, 6, .inl (pN fn))), (md 14, .inl (G.2.1, 42, .inl (fl6 mtk))), (md 21, .inl (G.2.1, 7, .inl (fl7 mla))), (md 25, .inl (G.2.1, 60, .inl (J_lh (s_mill (s_short (mla 0) (s_ra fl rn rf rt (nI ho))) (nI ho) (s_jrun (mtk 0) fn fl ai (nI ho) hk (lh, ls, lw, lt, bn, 0, 0)))))), (md 26, .inl (G.2.1, 60, .inl (J_ls (s_mill (s_short (mla 0) (s_ra fl rn rf rt (nI ho))) (nI ho) (s_jrun (mtk 0) fn fl ai (nI ho) hk (lh, ls, lw, lt, bn, 0, 0)))))), (md 27, .inl (G.2.1, 60, .inl (J_lw (s_mill (s_short (mla 0) (s_ra fl rn rf rt (nI ho))) (nI ho) (s_jrun (mtk 0) fn fl ai (nI ho) hk (lh, ls, lw, lt, bn, 0, 0)))))), (md 28, .inl (G.2.1, 4, .inl (J_lt (s_mill (s_short (mla 0) (s_ra fl rn rf rt (nI ho))) (nI ho) (s_jrun (mtk 0) fn fl ai (nI ho) hk (lh, ls, lw, lt, bn, 0, 0))))))]) #[.ref m0] s 0 0 (v_in [(m0, .inr (4, [.int (nI hk), .int (nI ho), .int (nI de), .int fl, .int ai, .int rn, .int rf, .int rt, .ref (md 8), .ref (md 9), .ref (md 10), .ref (md 11), .ref (md 12), .ref (md 13), .ref (md 14), .ref (md 15), .ref (md 16), .ref (md 17), .ref (md 18), .ref (md 19), .ref (md 20), .ref (md 21), .ref (md 22), .int bu, .int (nI bn), .ref (md 25), .ref (md 26), .ref (md 27), .ref (md 28)])), (md 8, .inl (G.2.1, 6, .inl (pN fn))), (md 14, .inl (G.2.1, 42, .inl (fl6 mtk))), (md 21, .inl (G.2.1, 7, .inl (fl7 mla))), (md 25, .inl (G.2.1, 60, .inl lh)), (md 26, .inl (G.2.1, 60, .inl ls)), (md 27, .inl (G.2.1, 60, .inl lw)), (md 28, .inl (G.2.1, 4, .inl lt))])) G (v_Iw (v_in [(m0, .inr (4, [.int (nI hk), .int (nI ho), .int (nI de), .int fl, .int ai, .int rn, .int rf, .int rt, .ref (md 8), .ref (md 9), .ref (md 10), .ref (md 11), .ref (md 12), .ref (md 13), .ref (md 14), .ref (md 15), .ref (md 16), .ref (md 17), .ref (md 18), .ref (md 19), .ref (md 20), .ref (md 21), .ref (md 22), .int bu, .int (nI bn), .ref (md 25), .ref (md 26), .ref (md 27), .ref (md 28)])), (md 8, .inl (G.2.1, 6, .inl (pN fn))), (md 14, .inl (G.2.1, 42, .inl (fl6 mtk))), (md 21, .inl (G.2.1, 7, .inl (fl7 mla))), (md 25, .inl (G.2.1, 60, .inl lh)), (md 26, .inl (G.2.1, 60, .inl ls)), (md 27, .inl (G.2.1, 60, .inl lw)), (md 28, .inl (G.2.1, 4, .inl lt))]) s) cX4_judges RX4 5 none [(m0, .inr (4, [.int (nI hk), .int (nI ho), .int (nI de), .int fl, .int ai, .int rn, .int rf, .int rt, .ref (md 8), .ref (md 9), .ref (md 10), .ref (md 11), .ref (md 12), .ref (md 13), .ref (md 14), .ref (md 15), .ref (md 16), .ref (md 17), .ref (md 18), .ref (md 19), .ref (md 20), .ref (md 21), .ref (md 22), .int bu, .int (nI (J_bn (s_jrun (mtk 0) fn fl ai (nI ho) i (lh, ls, lw, lt, bn, 0, 0)))), .ref (md 25), .ref (md 26), .ref (md 27), .ref (md 28)])), (md 8, .inl (G.2.1, 6, .inl (pN fn))), (md 14, .inl (G.2.1, 42, .inl (fl6 mtk))), (md 21, .inl (G.2.1, 7, .inl (fl7 mla))), (md 25, .inl (G.2.1, 60, .inl (J_lh (s_jrun (mtk 0) fn fl ai (nI ho) i (lh, ls, lw, lt, bn, 0, 0))))), (md 26, .inl (G.2.1, 60, .inl (J_ls (s_jrun (mtk 0) fn fl ai (nI ho) i (lh, ls, lw, lt, bn, 0, 0))))), (md 27, .inl (G.2.1, 60, .inl (J_lw (s_jrun (mtk 0) fn fl ai (nI ho) i (lh, ls, lw, lt, bn, 0, 0))))), (md 28, .inl (G.2.1, 4, .inl (J_lt (s_jrun (mtk 0) fn fl ai (nI ho) i (lh, ls, lw, lt, bn, 0, 0)))))] 0 0 [(3, .int (nI i)), (2, .int (J_ta (s_jrun (mtk 0) fn fl ai (nI ho) i (lh, ls, lw, lt, bn, 0, 0)))), (1, .int (J_br (s_jrun (mtk 0) fn fl ai (nI ho) i (lh, ls, lw, lt, bn, 0, 0)))), (0, .ref m0)] 17 [] := by
      intro k17
      induction k17 with
      | zero =>
        intro i hi17
        have hi17 : i = hk := by omega
        rw [hi17]
        refine v_iload_n dX4_judges_17 rfl 0 rfl ?_
        refine v_aload_n dX4_judges_18 rfl 3 rfl ?_
        refine v_get fX4_74 dX4_judges_19 0 rfl rfl ?_
        refine v_icmp_ge (tgt := 119) dX4_judges_22 (by decide) (fun h22 => ?_) (fun h22 => absurd (nI_le (by omega) (by omega)) h22)
        refine v_aload_n dX4_judges_119 rfl 3 rfl ?_
        refine v_get fX4_113 dX4_judges_120 0 rfl rfl ?_
        refine v_bipush (v := 24) dX4_judges_123 (by decide) ?_
        refine v_irm dX4_judges_125 (by decide) ?_
        refine v_aload_n dX4_judges_126 rfl 3 rfl ?_
        refine v_get fX4_99 dX4_judges_127 0 rfl rfl ?_
        refine v_icmp_lt (tgt := 174) dX4_judges_130 (by decide) (fun h130 => ?_) (fun h130 => ?_)
        · skip
          have h400 : ¬ 400 < fl := fun q => by rw [Int32.lt_iff_toInt_lt] at q; have h7 := h7; rw [Int32.le_iff_toInt_le] at h7; omega
          have hme : (s_mill (s_short (mla 0) (s_ra fl rn rf rt (nI ho))) (nI ho) (s_jrun (mtk 0) fn fl ai (nI ho) hk (lh, ls, lw, lt, bn, 0, 0))) = (s_jrun (mtk 0) fn fl ai (nI ho) hk (lh, ls, lw, lt, bn, 0, 0)) := mill_no (by rw [ra_a h130]; exact (nB_0 (by decide) hla))
          exact v_vretM dX4_judges_174 (v_w5 (fun (z0 : Int32) (z1 : Nat → Int32) (z2 : Nat → Int32) (z3 : Nat → Int32) (z4 : Nat → Int32) => ([(m0, .inr (4, [.int (nI hk), .int (nI ho), .int (nI de), .int fl, .int ai, .int rn, .int rf, .int rt, .ref (md 8), .ref (md 9), .ref (md 10), .ref (md 11), .ref (md 12), .ref (md 13), .ref (md 14), .ref (md 15), .ref (md 16), .ref (md 17), .ref (md 18), .ref (md 19), .ref (md 20), .ref (md 21), .ref (md 22), .int bu, .int z0, .ref (md 25), .ref (md 26), .ref (md 27), .ref (md 28)])), (md 8, .inl (G.2.1, 6, .inl (pN fn))), (md 14, .inl (G.2.1, 42, .inl (fl6 mtk))), (md 21, .inl (G.2.1, 7, .inl (fl7 mla))), (md 25, .inl (G.2.1, 60, .inl z1)), (md 26, .inl (G.2.1, 60, .inl z2)), (md 27, .inl (G.2.1, 60, .inl z3)), (md 28, .inl (G.2.1, 4, .inl z4))] : va_W)) (by rw [hme]) (by rw [hme]) (by rw [hme]) (by rw [hme]) (by rw [hme]))
        · skip
          refine v_aload_n dX4_judges_133 rfl 3 rfl ?_
          refine v_get fX4_113 dX4_judges_134 0 rfl rfl ?_
          refine v_bipush (v := 24) dX4_judges_137 (by decide) ?_
          refine v_irm dX4_judges_139 (by decide) ?_
          refine v_aload_n dX4_judges_140 rfl 3 rfl ?_
          refine v_get fX4_102 dX4_judges_141 0 rfl rfl ?_
          refine v_icmp_ge (tgt := 174) dX4_judges_144 (by decide) (fun h144 => ?_) (fun h144 => ?_)
          · skip
            have h400 : ¬ 400 < fl := fun q => by rw [Int32.lt_iff_toInt_lt] at q; have h7 := h7; rw [Int32.le_iff_toInt_le] at h7; omega
            have hme : (s_mill (s_short (mla 0) (s_ra fl rn rf rt (nI ho))) (nI ho) (s_jrun (mtk 0) fn fl ai (nI ho) hk (lh, ls, lw, lt, bn, 0, 0))) = (s_jrun (mtk 0) fn fl ai (nI ho) hk (lh, ls, lw, lt, bn, 0, 0)) := mill_no (by rw [ra_b h130 h144]; exact (nB_0 (by decide) hla))
            exact v_vretM dX4_judges_174 (v_w5 (fun (z0 : Int32) (z1 : Nat → Int32) (z2 : Nat → Int32) (z3 : Nat → Int32) (z4 : Nat → Int32) => ([(m0, .inr (4, [.int (nI hk), .int (nI ho), .int (nI de), .int fl, .int ai, .int rn, .int rf, .int rt, .ref (md 8), .ref (md 9), .ref (md 10), .ref (md 11), .ref (md 12), .ref (md 13), .ref (md 14), .ref (md 15), .ref (md 16), .ref (md 17), .ref (md 18), .ref (md 19), .ref (md 20), .ref (md 21), .ref (md 22), .int bu, .int z0, .ref (md 25), .ref (md 26), .ref (md 27), .ref (md 28)])), (md 8, .inl (G.2.1, 6, .inl (pN fn))), (md 14, .inl (G.2.1, 42, .inl (fl6 mtk))), (md 21, .inl (G.2.1, 7, .inl (fl7 mla))), (md 25, .inl (G.2.1, 60, .inl z1)), (md 26, .inl (G.2.1, 60, .inl z2)), (md 27, .inl (G.2.1, 60, .inl z3)), (md 28, .inl (G.2.1, 4, .inl z4))] : va_W)) (by rw [hme]) (by rw [hme]) (by rw [hme]) (by rw [hme]) (by rw [hme]))
          · skip
            refine v_aload_n dX4_judges_147 rfl 3 rfl ?_
            refine v_get fX4_56 dX4_judges_148 0 rfl rfl ?_
            refine v_iconst (v := nI 0) dX4_judges_151 (by decide) ?_
            refine v_iald dX4_judges_152 3 rfl 0 rfl (by omega) (by decide) ?_
            refine v_eqi (mla 0) (fl7_at _ (by decide)) ?_
            refine v_aload_n dX4_judges_153 rfl 3 rfl ?_
            refine v_get fX4_96 dX4_judges_154 0 rfl rfl ?_
            refine v_icmp_ge (tgt := 174) dX4_judges_157 (by decide) (fun h157 => ?_) (fun h157 => ?_)
            · skip
              have h400 : ¬ 400 < fl := fun q => by rw [Int32.lt_iff_toInt_lt] at q; have h7 := h7; rw [Int32.le_iff_toInt_le] at h7; omega
              have hme : (s_mill (s_short (mla 0) (s_ra fl rn rf rt (nI ho))) (nI ho) (s_jrun (mtk 0) fn fl ai (nI ho) hk (lh, ls, lw, lt, bn, 0, 0))) = (s_jrun (mtk 0) fn fl ai (nI ho) hk (lh, ls, lw, lt, bn, 0, 0)) := mill_no (by rw [ra_d h130 h144 h400]; exact h157)
              exact v_vretM dX4_judges_174 (v_w5 (fun (z0 : Int32) (z1 : Nat → Int32) (z2 : Nat → Int32) (z3 : Nat → Int32) (z4 : Nat → Int32) => ([(m0, .inr (4, [.int (nI hk), .int (nI ho), .int (nI de), .int fl, .int ai, .int rn, .int rf, .int rt, .ref (md 8), .ref (md 9), .ref (md 10), .ref (md 11), .ref (md 12), .ref (md 13), .ref (md 14), .ref (md 15), .ref (md 16), .ref (md 17), .ref (md 18), .ref (md 19), .ref (md 20), .ref (md 21), .ref (md 22), .int bu, .int z0, .ref (md 25), .ref (md 26), .ref (md 27), .ref (md 28)])), (md 8, .inl (G.2.1, 6, .inl (pN fn))), (md 14, .inl (G.2.1, 42, .inl (fl6 mtk))), (md 21, .inl (G.2.1, 7, .inl (fl7 mla))), (md 25, .inl (G.2.1, 60, .inl z1)), (md 26, .inl (G.2.1, 60, .inl z2)), (md 27, .inl (G.2.1, 60, .inl z3)), (md 28, .inl (G.2.1, 4, .inl z4))] : va_W)) (by rw [hme]) (by rw [hme]) (by rw [hme]) (by rw [hme]) (by rw [hme]))
            · skip
              refine v_aload_n dX4_judges_160 rfl 3 rfl ?_
              refine v_iconst (v := 2) dX4_judges_161 (by decide) ?_
              refine v_iload_n dX4_judges_162 rfl 2 rfl ?_
              refine v_if_le (tgt := 170) dX4_judges_163 (by decide) (fun h163 => ?_) (fun h163 => ?_)
              · skip
                refine v_iload_n dX4_judges_170 rfl 1 rfl ?_
                refine v_eqi (s_who (s_jrun (mtk 0) fn fl ai (nI ho) hk (lh, ls, lw, lt, bn, 0, 0))) (who_a h163 (s_jrun_br _ _ _ _ _ _ ⟨0, by decide, rfl⟩ hk hk6)) ?_
                refine v_vMv (ws' := [(m0, .inr (4, [.int (nI hk), .int (nI ho), .int (nI de), .int fl, .int ai, .int rn, .int rf, .int rt, .ref (md 8), .ref (md 9), .ref (md 10), .ref (md 11), .ref (md 12), .ref (md 13), .ref (md 14), .ref (md 15), .ref (md 16), .ref (md 17), .ref (md 18), .ref (md 19), .ref (md 20), .ref (md 21), .ref (md 22), .int bu, .int (nI ((J_bn (s_jrun (mtk 0) fn fl ai (nI ho) hk (lh, ls, lw, lt, bn, 0, 0))) + 1)), .ref (md 25), .ref (md 26), .ref (md 27), .ref (md 28)])), (md 8, .inl (G.2.1, 6, .inl (pN fn))), (md 14, .inl (G.2.1, 42, .inl (fl6 mtk))), (md 21, .inl (G.2.1, 7, .inl (fl7 mla))), (md 25, .inl (G.2.1, 60, .inl (s_ent (J_bn (s_jrun (mtk 0) fn fl ai (nI ho) hk (lh, ls, lw, lt, bn, 0, 0))) (J_lh (s_jrun (mtk 0) fn fl ai (nI ho) hk (lh, ls, lw, lt, bn, 0, 0))) (nI ho)))), (md 26, .inl (G.2.1, 60, .inl (s_ent (J_bn (s_jrun (mtk 0) fn fl ai (nI ho) hk (lh, ls, lw, lt, bn, 0, 0))) (J_ls (s_jrun (mtk 0) fn fl ai (nI ho) hk (lh, ls, lw, lt, bn, 0, 0))) 2))), (md 27, .inl (G.2.1, 60, .inl (s_ent (J_bn (s_jrun (mtk 0) fn fl ai (nI ho) hk (lh, ls, lw, lt, bn, 0, 0))) (J_lw (s_jrun (mtk 0) fn fl ai (nI ho) hk (lh, ls, lw, lt, bn, 0, 0))) (s_who (s_jrun (mtk 0) fn fl ai (nI ho) hk (lh, ls, lw, lt, bn, 0, 0)))))), (md 28, .inl (G.2.1, 4, .inl (J_lt (s_jrun (mtk 0) fn fl ai (nI ho) hk (lh, ls, lw, lt, bn, 0, 0)))))]) (As := [.int 2, .int (s_who (s_jrun (mtk 0) fn fl ai (nI ho) hk (lh, ls, lw, lt, bn, 0, 0)))]) (rest := []) (c_X4_breaks l G m0 md hk ho de fl ai rn rf rt bu (J_bn (s_jrun (mtk 0) fn fl ai (nI ho) hk (lh, ls, lw, lt, bn, 0, 0))) (J_lh (s_jrun (mtk 0) fn fl ai (nI ho) hk (lh, ls, lw, lt, bn, 0, 0))) (J_ls (s_jrun (mtk 0) fn fl ai (nI ho) hk (lh, ls, lw, lt, bn, 0, 0))) (J_lw (s_jrun (mtk 0) fn fl ai (nI ho) hk (lh, ls, lw, lt, bn, 0, 0))) 2 (s_who (s_jrun (mtk 0) fn fl ai (nI ho) hk (lh, ls, lw, lt, bn, 0, 0))) (by have := hjb hk; omega)) YX4_breaks mX4_119 dX4_judges_171 ciX4 0 rfl [0, 4, 5, 6] (by decide) rfl rfl rfl rfl rfl rfl (Nat.le_of_ble_eq_true rfl) (by decide) (by decide) ?_
                have h400 : ¬ 400 < fl := fun q => by rw [Int32.lt_iff_toInt_lt] at q; have h7 := h7; rw [Int32.le_iff_toInt_le] at h7; omega
                have hme : (s_mill (s_short (mla 0) (s_ra fl rn rf rt (nI ho))) (nI ho) (s_jrun (mtk 0) fn fl ai (nI ho) hk (lh, ls, lw, lt, bn, 0, 0))) = (s_ent (J_bn (s_jrun (mtk 0) fn fl ai (nI ho) hk (lh, ls, lw, lt, bn, 0, 0))) (J_lh (s_jrun (mtk 0) fn fl ai (nI ho) hk (lh, ls, lw, lt, bn, 0, 0))) (nI ho), s_ent (J_bn (s_jrun (mtk 0) fn fl ai (nI ho) hk (lh, ls, lw, lt, bn, 0, 0))) (J_ls (s_jrun (mtk 0) fn fl ai (nI ho) hk (lh, ls, lw, lt, bn, 0, 0))) 2, s_ent (J_bn (s_jrun (mtk 0) fn fl ai (nI ho) hk (lh, ls, lw, lt, bn, 0, 0))) (J_lw (s_jrun (mtk 0) fn fl ai (nI ho) hk (lh, ls, lw, lt, bn, 0, 0))) (s_who (s_jrun (mtk 0) fn fl ai (nI ho) hk (lh, ls, lw, lt, bn, 0, 0))), J_lt (s_jrun (mtk 0) fn fl ai (nI ho) hk (lh, ls, lw, lt, bn, 0, 0)), J_bn (s_jrun (mtk 0) fn fl ai (nI ho) hk (lh, ls, lw, lt, bn, 0, 0)) + 1, J_ta (s_jrun (mtk 0) fn fl ai (nI ho) hk (lh, ls, lw, lt, bn, 0, 0)), J_br (s_jrun (mtk 0) fn fl ai (nI ho) hk (lh, ls, lw, lt, bn, 0, 0))) := mill_yes (by rw [ra_d h130 h144 h400]; exact h157)
                exact v_vretM dX4_judges_174 (v_w5 (fun (z0 : Int32) (z1 : Nat → Int32) (z2 : Nat → Int32) (z3 : Nat → Int32) (z4 : Nat → Int32) => ([(m0, .inr (4, [.int (nI hk), .int (nI ho), .int (nI de), .int fl, .int ai, .int rn, .int rf, .int rt, .ref (md 8), .ref (md 9), .ref (md 10), .ref (md 11), .ref (md 12), .ref (md 13), .ref (md 14), .ref (md 15), .ref (md 16), .ref (md 17), .ref (md 18), .ref (md 19), .ref (md 20), .ref (md 21), .ref (md 22), .int bu, .int z0, .ref (md 25), .ref (md 26), .ref (md 27), .ref (md 28)])), (md 8, .inl (G.2.1, 6, .inl (pN fn))), (md 14, .inl (G.2.1, 42, .inl (fl6 mtk))), (md 21, .inl (G.2.1, 7, .inl (fl7 mla))), (md 25, .inl (G.2.1, 60, .inl z1)), (md 26, .inl (G.2.1, 60, .inl z2)), (md 27, .inl (G.2.1, 60, .inl z3)), (md 28, .inl (G.2.1, 4, .inl z4))] : va_W)) (by rw [hme]; rfl) (by rw [hme]; rfl) (by rw [hme]; rfl) (by rw [hme]; rfl) (by rw [hme]; rfl))
              · skip
                refine v_iload_n dX4_judges_166 rfl 2 rfl ?_
                refine v_goto (tgt := 171) dX4_judges_167 (by decide) ?_
                refine v_eqi (s_who (s_jrun (mtk 0) fn fl ai (nI ho) hk (lh, ls, lw, lt, bn, 0, 0))) (who_b h163) ?_
                refine v_vMv (ws' := [(m0, .inr (4, [.int (nI hk), .int (nI ho), .int (nI de), .int fl, .int ai, .int rn, .int rf, .int rt, .ref (md 8), .ref (md 9), .ref (md 10), .ref (md 11), .ref (md 12), .ref (md 13), .ref (md 14), .ref (md 15), .ref (md 16), .ref (md 17), .ref (md 18), .ref (md 19), .ref (md 20), .ref (md 21), .ref (md 22), .int bu, .int (nI ((J_bn (s_jrun (mtk 0) fn fl ai (nI ho) hk (lh, ls, lw, lt, bn, 0, 0))) + 1)), .ref (md 25), .ref (md 26), .ref (md 27), .ref (md 28)])), (md 8, .inl (G.2.1, 6, .inl (pN fn))), (md 14, .inl (G.2.1, 42, .inl (fl6 mtk))), (md 21, .inl (G.2.1, 7, .inl (fl7 mla))), (md 25, .inl (G.2.1, 60, .inl (s_ent (J_bn (s_jrun (mtk 0) fn fl ai (nI ho) hk (lh, ls, lw, lt, bn, 0, 0))) (J_lh (s_jrun (mtk 0) fn fl ai (nI ho) hk (lh, ls, lw, lt, bn, 0, 0))) (nI ho)))), (md 26, .inl (G.2.1, 60, .inl (s_ent (J_bn (s_jrun (mtk 0) fn fl ai (nI ho) hk (lh, ls, lw, lt, bn, 0, 0))) (J_ls (s_jrun (mtk 0) fn fl ai (nI ho) hk (lh, ls, lw, lt, bn, 0, 0))) 2))), (md 27, .inl (G.2.1, 60, .inl (s_ent (J_bn (s_jrun (mtk 0) fn fl ai (nI ho) hk (lh, ls, lw, lt, bn, 0, 0))) (J_lw (s_jrun (mtk 0) fn fl ai (nI ho) hk (lh, ls, lw, lt, bn, 0, 0))) (s_who (s_jrun (mtk 0) fn fl ai (nI ho) hk (lh, ls, lw, lt, bn, 0, 0)))))), (md 28, .inl (G.2.1, 4, .inl (J_lt (s_jrun (mtk 0) fn fl ai (nI ho) hk (lh, ls, lw, lt, bn, 0, 0)))))]) (As := [.int 2, .int (s_who (s_jrun (mtk 0) fn fl ai (nI ho) hk (lh, ls, lw, lt, bn, 0, 0)))]) (rest := []) (c_X4_breaks l G m0 md hk ho de fl ai rn rf rt bu (J_bn (s_jrun (mtk 0) fn fl ai (nI ho) hk (lh, ls, lw, lt, bn, 0, 0))) (J_lh (s_jrun (mtk 0) fn fl ai (nI ho) hk (lh, ls, lw, lt, bn, 0, 0))) (J_ls (s_jrun (mtk 0) fn fl ai (nI ho) hk (lh, ls, lw, lt, bn, 0, 0))) (J_lw (s_jrun (mtk 0) fn fl ai (nI ho) hk (lh, ls, lw, lt, bn, 0, 0))) 2 (s_who (s_jrun (mtk 0) fn fl ai (nI ho) hk (lh, ls, lw, lt, bn, 0, 0))) (by have := hjb hk; omega)) YX4_breaks mX4_119 dX4_judges_171 ciX4 0 rfl [0, 4, 5, 6] (by decide) rfl rfl rfl rfl rfl rfl (Nat.le_of_ble_eq_true rfl) (by decide) (by decide) ?_
                have h400 : ¬ 400 < fl := fun q => by rw [Int32.lt_iff_toInt_lt] at q; have h7 := h7; rw [Int32.le_iff_toInt_le] at h7; omega
                have hme : (s_mill (s_short (mla 0) (s_ra fl rn rf rt (nI ho))) (nI ho) (s_jrun (mtk 0) fn fl ai (nI ho) hk (lh, ls, lw, lt, bn, 0, 0))) = (s_ent (J_bn (s_jrun (mtk 0) fn fl ai (nI ho) hk (lh, ls, lw, lt, bn, 0, 0))) (J_lh (s_jrun (mtk 0) fn fl ai (nI ho) hk (lh, ls, lw, lt, bn, 0, 0))) (nI ho), s_ent (J_bn (s_jrun (mtk 0) fn fl ai (nI ho) hk (lh, ls, lw, lt, bn, 0, 0))) (J_ls (s_jrun (mtk 0) fn fl ai (nI ho) hk (lh, ls, lw, lt, bn, 0, 0))) 2, s_ent (J_bn (s_jrun (mtk 0) fn fl ai (nI ho) hk (lh, ls, lw, lt, bn, 0, 0))) (J_lw (s_jrun (mtk 0) fn fl ai (nI ho) hk (lh, ls, lw, lt, bn, 0, 0))) (s_who (s_jrun (mtk 0) fn fl ai (nI ho) hk (lh, ls, lw, lt, bn, 0, 0))), J_lt (s_jrun (mtk 0) fn fl ai (nI ho) hk (lh, ls, lw, lt, bn, 0, 0)), J_bn (s_jrun (mtk 0) fn fl ai (nI ho) hk (lh, ls, lw, lt, bn, 0, 0)) + 1, J_ta (s_jrun (mtk 0) fn fl ai (nI ho) hk (lh, ls, lw, lt, bn, 0, 0)), J_br (s_jrun (mtk 0) fn fl ai (nI ho) hk (lh, ls, lw, lt, bn, 0, 0))) := mill_yes (by rw [ra_d h130 h144 h400]; exact h157)
                exact v_vretM dX4_judges_174 (v_w5 (fun (z0 : Int32) (z1 : Nat → Int32) (z2 : Nat → Int32) (z3 : Nat → Int32) (z4 : Nat → Int32) => ([(m0, .inr (4, [.int (nI hk), .int (nI ho), .int (nI de), .int fl, .int ai, .int rn, .int rf, .int rt, .ref (md 8), .ref (md 9), .ref (md 10), .ref (md 11), .ref (md 12), .ref (md 13), .ref (md 14), .ref (md 15), .ref (md 16), .ref (md 17), .ref (md 18), .ref (md 19), .ref (md 20), .ref (md 21), .ref (md 22), .int bu, .int z0, .ref (md 25), .ref (md 26), .ref (md 27), .ref (md 28)])), (md 8, .inl (G.2.1, 6, .inl (pN fn))), (md 14, .inl (G.2.1, 42, .inl (fl6 mtk))), (md 21, .inl (G.2.1, 7, .inl (fl7 mla))), (md 25, .inl (G.2.1, 60, .inl z1)), (md 26, .inl (G.2.1, 60, .inl z2)), (md 27, .inl (G.2.1, 60, .inl z3)), (md 28, .inl (G.2.1, 4, .inl z4))] : va_W)) (by rw [hme]; rfl) (by rw [hme]; rfl) (by rw [hme]; rfl) (by rw [hme]; rfl) (by rw [hme]; rfl))
      | succ k17 ih17 =>
        intro i hi17
        refine v_iload_n dX4_judges_17 rfl 0 rfl ?_
        refine v_aload_n dX4_judges_18 rfl 3 rfl ?_
        refine v_get fX4_74 dX4_judges_19 0 rfl rfl ?_
        refine v_icmp_ge (tgt := 119) dX4_judges_22 (by decide) (fun h22 => absurd h22 (nI_ge (by omega) (by omega))) (fun h22 => ?_)
        refine v_aload_n dX4_judges_25 rfl 3 rfl ?_
        refine v_get fX4_35 dX4_judges_26 0 rfl rfl ?_
        refine v_iload_n dX4_judges_29 rfl 0 rfl ?_
        refine v_iald dX4_judges_30 2 rfl i rfl (by omega) (by decide) ?_
        refine v_eqi (mtk 0 i) (fl6_at0 _ (by omega)) ?_
        refine v_if_le (tgt := 38) dX4_judges_31 (by decide) (fun h31 => ?_) (fun h31 => ?_)
        · skip
          refine v_iconst (v := 0) dX4_judges_38 (by decide) ?_
          refine v_istore (lv' := [(4, .int 0), (3, .int (nI i)), (2, .int (J_ta (s_jrun (mtk 0) fn fl ai (nI ho) i (lh, ls, lw, lt, bn, 0, 0)))), (1, .int (J_br (s_jrun (mtk 0) fn fl ai (nI ho) i (lh, ls, lw, lt, bn, 0, 0)))), (0, .ref m0)]) dX4_judges_39 (by decide) rfl ?_
          refine v_iload_n dX4_judges_41 rfl 2 rfl ?_
          refine v_iload dX4_judges_42 0 rfl ?_
          refine v_if_eq (tgt := 53) dX4_judges_44 (by decide) (fun h44 => ?_) (fun h44 => absurd h44 (by decide))
          refine v_iconst (v := 0) dX4_judges_53 (by decide) ?_
          refine v_ior dX4_judges_54 ?_
          refine v_istore_n (lv' := [(2, .int ((J_ta (s_jrun (mtk 0) fn fl ai (nI ho) i (lh, ls, lw, lt, bn, 0, 0))) ||| 0)), (4, .int 0), (3, .int (nI i)), (1, .int (J_br (s_jrun (mtk 0) fn fl ai (nI ho) i (lh, ls, lw, lt, bn, 0, 0)))), (0, .ref m0)]) dX4_judges_55 rfl (by decide) rfl ?_
          refine v_iload dX4_judges_56 1 rfl ?_
          refine v_if_eq (tgt := 113) dX4_judges_58 (by decide) (fun h58 => ?_) (fun h58 => absurd h58 (by decide))
          refine v_iinc (v := nI i + 1) (q := 2) (lv' := [(3, .int (nI i + 1)), (2, .int ((J_ta (s_jrun (mtk 0) fn fl ai (nI ho) i (lh, ls, lw, lt, bn, 0, 0))) ||| 0)), (4, .int 0), (1, .int (J_br (s_jrun (mtk 0) fn fl ai (nI ho) i (lh, ls, lw, lt, bn, 0, 0)))), (0, .ref m0)]) dX4_judges_113 rfl rfl (by decide) rfl ?_
          refine v_goto (tgt := 17) dX4_judges_116 (by decide) ?_
          refine v_world (ws' := [(m0, .inr (4, [.int (nI hk), .int (nI ho), .int (nI de), .int fl, .int ai, .int rn, .int rf, .int rt, .ref (md 8), .ref (md 9), .ref (md 10), .ref (md 11), .ref (md 12), .ref (md 13), .ref (md 14), .ref (md 15), .ref (md 16), .ref (md 17), .ref (md 18), .ref (md 19), .ref (md 20), .ref (md 21), .ref (md 22), .int bu, .int (nI (J_bn (s_jrun (mtk 0) fn fl ai (nI ho) (i + 1) (lh, ls, lw, lt, bn, 0, 0)))), .ref (md 25), .ref (md 26), .ref (md 27), .ref (md 28)])), (md 8, .inl (G.2.1, 6, .inl (pN fn))), (md 14, .inl (G.2.1, 42, .inl (fl6 mtk))), (md 21, .inl (G.2.1, 7, .inl (fl7 mla))), (md 25, .inl (G.2.1, 60, .inl (J_lh (s_jrun (mtk 0) fn fl ai (nI ho) (i + 1) (lh, ls, lw, lt, bn, 0, 0))))), (md 26, .inl (G.2.1, 60, .inl (J_ls (s_jrun (mtk 0) fn fl ai (nI ho) (i + 1) (lh, ls, lw, lt, bn, 0, 0))))), (md 27, .inl (G.2.1, 60, .inl (J_lw (s_jrun (mtk 0) fn fl ai (nI ho) (i + 1) (lh, ls, lw, lt, bn, 0, 0))))), (md 28, .inl (G.2.1, 4, .inl (J_lt (s_jrun (mtk 0) fn fl ai (nI ho) (i + 1) (lh, ls, lw, lt, bn, 0, 0)))))]) (v_w5 (fun (z0 : Int32) (z1 : Nat → Int32) (z2 : Nat → Int32) (z3 : Nat → Int32) (z4 : Nat → Int32) => ([(m0, .inr (4, [.int (nI hk), .int (nI ho), .int (nI de), .int fl, .int ai, .int rn, .int rf, .int rt, .ref (md 8), .ref (md 9), .ref (md 10), .ref (md 11), .ref (md 12), .ref (md 13), .ref (md 14), .ref (md 15), .ref (md 16), .ref (md 17), .ref (md 18), .ref (md 19), .ref (md 20), .ref (md 21), .ref (md 22), .int bu, .int z0, .ref (md 25), .ref (md 26), .ref (md 27), .ref (md 28)])), (md 8, .inl (G.2.1, 6, .inl (pN fn))), (md 14, .inl (G.2.1, 42, .inl (fl6 mtk))), (md 21, .inl (G.2.1, 7, .inl (fl7 mla))), (md 25, .inl (G.2.1, 60, .inl z1)), (md 26, .inl (G.2.1, 60, .inl z2)), (md 27, .inl (G.2.1, 60, .inl z3)), (md 28, .inl (G.2.1, 4, .inl z4))] : va_W)) (by simp only [s_jrun, s_jst, if_pos h31, Int32.or_zero] <;> rfl) (by simp only [s_jrun, s_jst, if_pos h31, Int32.or_zero] <;> rfl) (by simp only [s_jrun, s_jst, if_pos h31, Int32.or_zero] <;> rfl) (by simp only [s_jrun, s_jst, if_pos h31, Int32.or_zero] <;> rfl) (by simp only [s_jrun, s_jst, if_pos h31, Int32.or_zero] <;> rfl)) ?_
          refine v_locals (lv' := [(3, .int (nI i + 1)), (2, .int ((J_ta (s_jrun (mtk 0) fn fl ai (nI ho) i (lh, ls, lw, lt, bn, 0, 0))) ||| 0)), (1, .int (J_br (s_jrun (mtk 0) fn fl ai (nI ho) i (lh, ls, lw, lt, bn, 0, 0)))), (0, .ref m0)]) [0, 1, 3, 4] rfl ?_
          refine v_lveq (lv' := [(3, .int (nI (i + 1))), (2, .int (J_ta (s_jrun (mtk 0) fn fl ai (nI ho) (i + 1) (lh, ls, lw, lt, bn, 0, 0)))), (1, .int (J_br (s_jrun (mtk 0) fn fl ai (nI ho) (i + 1) (lh, ls, lw, lt, bn, 0, 0)))), (0, .ref m0)]) (v_l3 (fun (z0 : Int32) (z1 : Int32) (z2 : Int32) => ([(3, .int z0), (2, .int z1), (1, .int z2), (0, .ref m0)] : List (Nat × Value))) (nI_1 i) (by simp only [s_jrun, s_jst, if_pos h31, Int32.or_zero] <;> rfl) (by simp only [s_jrun, s_jst, if_pos h31, Int32.or_zero] <;> rfl)) ?_
          exact ih17 (i + 1) (by omega)
        · skip
          refine v_iconst (v := 1) dX4_judges_34 (by decide) ?_
          refine v_goto (tgt := 39) dX4_judges_35 (by decide) ?_
          refine v_istore (lv' := [(4, .int 1), (3, .int (nI i)), (2, .int (J_ta (s_jrun (mtk 0) fn fl ai (nI ho) i (lh, ls, lw, lt, bn, 0, 0)))), (1, .int (J_br (s_jrun (mtk 0) fn fl ai (nI ho) i (lh, ls, lw, lt, bn, 0, 0)))), (0, .ref m0)]) dX4_judges_39 (by decide) rfl ?_
          refine v_iload_n dX4_judges_41 rfl 2 rfl ?_
          refine v_iload dX4_judges_42 0 rfl ?_
          refine v_if_eq (tgt := 53) dX4_judges_44 (by decide) (fun h44 => absurd h44 (by decide)) (fun h44 => ?_)
          refine v_iconst (v := 1) dX4_judges_47 (by decide) ?_
          refine v_iload_n dX4_judges_48 rfl 1 rfl ?_
          refine v_ishl dX4_judges_49 ?_
          refine v_goto (tgt := 54) dX4_judges_50 (by decide) ?_
          refine v_ior dX4_judges_54 ?_
          refine v_istore_n (lv' := [(2, .int ((J_ta (s_jrun (mtk 0) fn fl ai (nI ho) i (lh, ls, lw, lt, bn, 0, 0))) ||| (1 <<< (nI i &&& 31)))), (4, .int 1), (3, .int (nI i)), (1, .int (J_br (s_jrun (mtk 0) fn fl ai (nI ho) i (lh, ls, lw, lt, bn, 0, 0)))), (0, .ref m0)]) dX4_judges_55 rfl (by decide) rfl ?_
          refine v_iload dX4_judges_56 1 rfl ?_
          refine v_if_eq (tgt := 113) dX4_judges_58 (by decide) (fun h58 => absurd h58 (by decide)) (fun h58 => ?_)
          refine v_aload_n dX4_judges_61 rfl 4 rfl ?_
          refine v_get fX4_113 dX4_judges_62 0 rfl rfl ?_
          refine v_bipush (v := 24) dX4_judges_65 (by decide) ?_
          refine v_idiv dX4_judges_67 (by decide) ?_
          refine v_iconst (v := 4) dX4_judges_68 (by decide) ?_
          refine v_irm dX4_judges_69 (by decide) ?_
          refine v_aload_n dX4_judges_70 rfl 4 rfl ?_
          refine v_get fX4_16 dX4_judges_71 0 rfl rfl ?_
          refine v_iload_n dX4_judges_74 rfl 2 rfl ?_
          refine v_iald dX4_judges_75 1 rfl i rfl (by omega) (by decide) ?_
          refine v_eqi (nI (fn i)) rfl ?_
          refine v_icmp_eq (tgt := 113) dX4_judges_76 (by decide) (fun h76 => ?_) (fun h76 => ?_)
          · skip
            have hso : s_out (nI (fn i)) fl ai (nI ho) = 0 := by simp only [s_out, if_pos h76]
            refine v_iinc (v := nI i + 1) (q := 2) (lv' := [(3, .int (nI i + 1)), (2, .int ((J_ta (s_jrun (mtk 0) fn fl ai (nI ho) i (lh, ls, lw, lt, bn, 0, 0))) ||| (1 <<< (nI i &&& 31)))), (4, .int 1), (1, .int (J_br (s_jrun (mtk 0) fn fl ai (nI ho) i (lh, ls, lw, lt, bn, 0, 0)))), (0, .ref m0)]) dX4_judges_113 rfl rfl (by decide) rfl ?_
            refine v_goto (tgt := 17) dX4_judges_116 (by decide) ?_
            refine v_world (ws' := [(m0, .inr (4, [.int (nI hk), .int (nI ho), .int (nI de), .int fl, .int ai, .int rn, .int rf, .int rt, .ref (md 8), .ref (md 9), .ref (md 10), .ref (md 11), .ref (md 12), .ref (md 13), .ref (md 14), .ref (md 15), .ref (md 16), .ref (md 17), .ref (md 18), .ref (md 19), .ref (md 20), .ref (md 21), .ref (md 22), .int bu, .int (nI (J_bn (s_jrun (mtk 0) fn fl ai (nI ho) (i + 1) (lh, ls, lw, lt, bn, 0, 0)))), .ref (md 25), .ref (md 26), .ref (md 27), .ref (md 28)])), (md 8, .inl (G.2.1, 6, .inl (pN fn))), (md 14, .inl (G.2.1, 42, .inl (fl6 mtk))), (md 21, .inl (G.2.1, 7, .inl (fl7 mla))), (md 25, .inl (G.2.1, 60, .inl (J_lh (s_jrun (mtk 0) fn fl ai (nI ho) (i + 1) (lh, ls, lw, lt, bn, 0, 0))))), (md 26, .inl (G.2.1, 60, .inl (J_ls (s_jrun (mtk 0) fn fl ai (nI ho) (i + 1) (lh, ls, lw, lt, bn, 0, 0))))), (md 27, .inl (G.2.1, 60, .inl (J_lw (s_jrun (mtk 0) fn fl ai (nI ho) (i + 1) (lh, ls, lw, lt, bn, 0, 0))))), (md 28, .inl (G.2.1, 4, .inl (J_lt (s_jrun (mtk 0) fn fl ai (nI ho) (i + 1) (lh, ls, lw, lt, bn, 0, 0)))))]) (v_w5 (fun (z0 : Int32) (z1 : Nat → Int32) (z2 : Nat → Int32) (z3 : Nat → Int32) (z4 : Nat → Int32) => ([(m0, .inr (4, [.int (nI hk), .int (nI ho), .int (nI de), .int fl, .int ai, .int rn, .int rf, .int rt, .ref (md 8), .ref (md 9), .ref (md 10), .ref (md 11), .ref (md 12), .ref (md 13), .ref (md 14), .ref (md 15), .ref (md 16), .ref (md 17), .ref (md 18), .ref (md 19), .ref (md 20), .ref (md 21), .ref (md 22), .int bu, .int z0, .ref (md 25), .ref (md 26), .ref (md 27), .ref (md 28)])), (md 8, .inl (G.2.1, 6, .inl (pN fn))), (md 14, .inl (G.2.1, 42, .inl (fl6 mtk))), (md 21, .inl (G.2.1, 7, .inl (fl7 mla))), (md 25, .inl (G.2.1, 60, .inl z1)), (md 26, .inl (G.2.1, 60, .inl z2)), (md 27, .inl (G.2.1, 60, .inl z3)), (md 28, .inl (G.2.1, 4, .inl z4))] : va_W)) (by simp only [s_jrun, s_jst, if_neg h31, if_pos hso] <;> rfl) (by simp only [s_jrun, s_jst, if_neg h31, if_pos hso] <;> rfl) (by simp only [s_jrun, s_jst, if_neg h31, if_pos hso] <;> rfl) (by simp only [s_jrun, s_jst, if_neg h31, if_pos hso] <;> rfl) (by simp only [s_jrun, s_jst, if_neg h31, if_pos hso] <;> rfl)) ?_
            refine v_locals (lv' := [(3, .int (nI i + 1)), (2, .int ((J_ta (s_jrun (mtk 0) fn fl ai (nI ho) i (lh, ls, lw, lt, bn, 0, 0))) ||| (1 <<< (nI i &&& 31)))), (1, .int (J_br (s_jrun (mtk 0) fn fl ai (nI ho) i (lh, ls, lw, lt, bn, 0, 0)))), (0, .ref m0)]) [0, 1, 3, 4] rfl ?_
            refine v_lveq (lv' := [(3, .int (nI (i + 1))), (2, .int (J_ta (s_jrun (mtk 0) fn fl ai (nI ho) (i + 1) (lh, ls, lw, lt, bn, 0, 0)))), (1, .int (J_br (s_jrun (mtk 0) fn fl ai (nI ho) (i + 1) (lh, ls, lw, lt, bn, 0, 0)))), (0, .ref m0)]) (v_l3 (fun (z0 : Int32) (z1 : Int32) (z2 : Int32) => ([(3, .int z0), (2, .int z1), (1, .int z2), (0, .ref m0)] : List (Nat × Value))) (nI_1 i) (by simp only [s_jrun, s_jst, if_neg h31, if_pos hso] <;> rfl) (by simp only [s_jrun, s_jst, if_neg h31, if_pos hso] <;> rfl)) ?_
            exact ih17 (i + 1) (by omega)
          · skip
            refine v_aload_n dX4_judges_79 rfl 4 rfl ?_
            refine v_get fX4_13 dX4_judges_80 0 rfl rfl ?_
            refine v_if_lt (tgt := 113) dX4_judges_83 (by decide) (fun h83 => ?_) (fun h83 => ?_)
            · skip
              have hso : s_out (nI (fn i)) fl ai (nI ho) = 0 := by simp only [s_out, if_neg h76, if_pos h83]
              refine v_iinc (v := nI i + 1) (q := 2) (lv' := [(3, .int (nI i + 1)), (2, .int ((J_ta (s_jrun (mtk 0) fn fl ai (nI ho) i (lh, ls, lw, lt, bn, 0, 0))) ||| (1 <<< (nI i &&& 31)))), (4, .int 1), (1, .int (J_br (s_jrun (mtk 0) fn fl ai (nI ho) i (lh, ls, lw, lt, bn, 0, 0)))), (0, .ref m0)]) dX4_judges_113 rfl rfl (by decide) rfl ?_
              refine v_goto (tgt := 17) dX4_judges_116 (by decide) ?_
              refine v_world (ws' := [(m0, .inr (4, [.int (nI hk), .int (nI ho), .int (nI de), .int fl, .int ai, .int rn, .int rf, .int rt, .ref (md 8), .ref (md 9), .ref (md 10), .ref (md 11), .ref (md 12), .ref (md 13), .ref (md 14), .ref (md 15), .ref (md 16), .ref (md 17), .ref (md 18), .ref (md 19), .ref (md 20), .ref (md 21), .ref (md 22), .int bu, .int (nI (J_bn (s_jrun (mtk 0) fn fl ai (nI ho) (i + 1) (lh, ls, lw, lt, bn, 0, 0)))), .ref (md 25), .ref (md 26), .ref (md 27), .ref (md 28)])), (md 8, .inl (G.2.1, 6, .inl (pN fn))), (md 14, .inl (G.2.1, 42, .inl (fl6 mtk))), (md 21, .inl (G.2.1, 7, .inl (fl7 mla))), (md 25, .inl (G.2.1, 60, .inl (J_lh (s_jrun (mtk 0) fn fl ai (nI ho) (i + 1) (lh, ls, lw, lt, bn, 0, 0))))), (md 26, .inl (G.2.1, 60, .inl (J_ls (s_jrun (mtk 0) fn fl ai (nI ho) (i + 1) (lh, ls, lw, lt, bn, 0, 0))))), (md 27, .inl (G.2.1, 60, .inl (J_lw (s_jrun (mtk 0) fn fl ai (nI ho) (i + 1) (lh, ls, lw, lt, bn, 0, 0))))), (md 28, .inl (G.2.1, 4, .inl (J_lt (s_jrun (mtk 0) fn fl ai (nI ho) (i + 1) (lh, ls, lw, lt, bn, 0, 0)))))]) (v_w5 (fun (z0 : Int32) (z1 : Nat → Int32) (z2 : Nat → Int32) (z3 : Nat → Int32) (z4 : Nat → Int32) => ([(m0, .inr (4, [.int (nI hk), .int (nI ho), .int (nI de), .int fl, .int ai, .int rn, .int rf, .int rt, .ref (md 8), .ref (md 9), .ref (md 10), .ref (md 11), .ref (md 12), .ref (md 13), .ref (md 14), .ref (md 15), .ref (md 16), .ref (md 17), .ref (md 18), .ref (md 19), .ref (md 20), .ref (md 21), .ref (md 22), .int bu, .int z0, .ref (md 25), .ref (md 26), .ref (md 27), .ref (md 28)])), (md 8, .inl (G.2.1, 6, .inl (pN fn))), (md 14, .inl (G.2.1, 42, .inl (fl6 mtk))), (md 21, .inl (G.2.1, 7, .inl (fl7 mla))), (md 25, .inl (G.2.1, 60, .inl z1)), (md 26, .inl (G.2.1, 60, .inl z2)), (md 27, .inl (G.2.1, 60, .inl z3)), (md 28, .inl (G.2.1, 4, .inl z4))] : va_W)) (by simp only [s_jrun, s_jst, if_neg h31, if_pos hso] <;> rfl) (by simp only [s_jrun, s_jst, if_neg h31, if_pos hso] <;> rfl) (by simp only [s_jrun, s_jst, if_neg h31, if_pos hso] <;> rfl) (by simp only [s_jrun, s_jst, if_neg h31, if_pos hso] <;> rfl) (by simp only [s_jrun, s_jst, if_neg h31, if_pos hso] <;> rfl)) ?_
              refine v_locals (lv' := [(3, .int (nI i + 1)), (2, .int ((J_ta (s_jrun (mtk 0) fn fl ai (nI ho) i (lh, ls, lw, lt, bn, 0, 0))) ||| (1 <<< (nI i &&& 31)))), (1, .int (J_br (s_jrun (mtk 0) fn fl ai (nI ho) i (lh, ls, lw, lt, bn, 0, 0)))), (0, .ref m0)]) [0, 1, 3, 4] rfl ?_
              refine v_lveq (lv' := [(3, .int (nI (i + 1))), (2, .int (J_ta (s_jrun (mtk 0) fn fl ai (nI ho) (i + 1) (lh, ls, lw, lt, bn, 0, 0)))), (1, .int (J_br (s_jrun (mtk 0) fn fl ai (nI ho) (i + 1) (lh, ls, lw, lt, bn, 0, 0)))), (0, .ref m0)]) (v_l3 (fun (z0 : Int32) (z1 : Int32) (z2 : Int32) => ([(3, .int z0), (2, .int z1), (1, .int z2), (0, .ref m0)] : List (Nat × Value))) (nI_1 i) (by simp only [s_jrun, s_jst, if_neg h31, if_pos hso] <;> rfl) (by simp only [s_jrun, s_jst, if_neg h31, if_pos hso] <;> rfl)) ?_
              exact ih17 (i + 1) (by omega)
            · skip
              refine v_iload_n dX4_judges_86 rfl 3 rfl ?_
              refine v_iconst (v := 1) dX4_judges_87 (by decide) ?_
              refine v_iload_n dX4_judges_88 rfl 2 rfl ?_
              refine v_ishl dX4_judges_89 ?_
              refine v_ior dX4_judges_90 ?_
              refine v_istore_n (lv' := [(1, .int ((J_br (s_jrun (mtk 0) fn fl ai (nI ho) i (lh, ls, lw, lt, bn, 0, 0))) ||| (1 <<< (nI i &&& 31)))), (2, .int ((J_ta (s_jrun (mtk 0) fn fl ai (nI ho) i (lh, ls, lw, lt, bn, 0, 0))) ||| (1 <<< (nI i &&& 31)))), (4, .int 1), (3, .int (nI i)), (0, .ref m0)]) dX4_judges_91 rfl (by decide) rfl ?_
              refine v_aload_n dX4_judges_92 rfl 4 rfl ?_
              refine v_get fX4_71 dX4_judges_93 0 rfl rfl ?_
              refine v_aload_n dX4_judges_96 rfl 4 rfl ?_
              refine v_get fX4_16 dX4_judges_97 0 rfl rfl ?_
              refine v_iload_n dX4_judges_100 rfl 3 rfl ?_
              refine v_iald dX4_judges_101 1 rfl i rfl (by omega) (by decide) ?_
              refine v_eqi (nI (fn i)) rfl ?_
              refine v_dup2 dX4_judges_102 rfl rfl ?_
              refine v_iald dX4_judges_103 7 rfl (fn i) rfl (hfn i (by omega)) (by decide) ?_
              refine v_iconst (v := 1) dX4_judges_104 (by decide) ?_
              refine v_iadd dX4_judges_105 ?_
              refine v_iast (ws' := [(m0, .inr (4, [.int (nI hk), .int (nI ho), .int (nI de), .int fl, .int ai, .int rn, .int rf, .int rt, .ref (md 8), .ref (md 9), .ref (md 10), .ref (md 11), .ref (md 12), .ref (md 13), .ref (md 14), .ref (md 15), .ref (md 16), .ref (md 17), .ref (md 18), .ref (md 19), .ref (md 20), .ref (md 21), .ref (md 22), .int bu, .int (nI (J_bn (s_jrun (mtk 0) fn fl ai (nI ho) i (lh, ls, lw, lt, bn, 0, 0)))), .ref (md 25), .ref (md 26), .ref (md 27), .ref (md 28)])), (md 8, .inl (G.2.1, 6, .inl (pN fn))), (md 14, .inl (G.2.1, 42, .inl (fl6 mtk))), (md 21, .inl (G.2.1, 7, .inl (fl7 mla))), (md 25, .inl (G.2.1, 60, .inl (J_lh (s_jrun (mtk 0) fn fl ai (nI ho) i (lh, ls, lw, lt, bn, 0, 0))))), (md 26, .inl (G.2.1, 60, .inl (J_ls (s_jrun (mtk 0) fn fl ai (nI ho) i (lh, ls, lw, lt, bn, 0, 0))))), (md 27, .inl (G.2.1, 60, .inl (J_lw (s_jrun (mtk 0) fn fl ai (nI ho) i (lh, ls, lw, lt, bn, 0, 0))))), (md 28, .inl (G.2.1, 4, .inl (upd (J_lt (s_jrun (mtk 0) fn fl ai (nI ho) i (lh, ls, lw, lt, bn, 0, 0))) (fn i) (((J_lt (s_jrun (mtk 0) fn fl ai (nI ho) i (lh, ls, lw, lt, bn, 0, 0))) (fn i)) + 1))))]) dX4_judges_106 7 rfl (fn i) rfl (hfn i (by omega)) (by decide) rfl ?_
              refine v_aload_n dX4_judges_107 rfl 4 rfl ?_
              refine v_iconst (v := 1) dX4_judges_108 (by decide) ?_
              refine v_iload_n dX4_judges_109 rfl 3 rfl ?_
              refine v_vMv (ws' := [(m0, .inr (4, [.int (nI hk), .int (nI ho), .int (nI de), .int fl, .int ai, .int rn, .int rf, .int rt, .ref (md 8), .ref (md 9), .ref (md 10), .ref (md 11), .ref (md 12), .ref (md 13), .ref (md 14), .ref (md 15), .ref (md 16), .ref (md 17), .ref (md 18), .ref (md 19), .ref (md 20), .ref (md 21), .ref (md 22), .int bu, .int (nI ((J_bn (s_jrun (mtk 0) fn fl ai (nI ho) i (lh, ls, lw, lt, bn, 0, 0))) + 1)), .ref (md 25), .ref (md 26), .ref (md 27), .ref (md 28)])), (md 8, .inl (G.2.1, 6, .inl (pN fn))), (md 14, .inl (G.2.1, 42, .inl (fl6 mtk))), (md 21, .inl (G.2.1, 7, .inl (fl7 mla))), (md 25, .inl (G.2.1, 60, .inl (s_ent (J_bn (s_jrun (mtk 0) fn fl ai (nI ho) i (lh, ls, lw, lt, bn, 0, 0))) (J_lh (s_jrun (mtk 0) fn fl ai (nI ho) i (lh, ls, lw, lt, bn, 0, 0))) (nI ho)))), (md 26, .inl (G.2.1, 60, .inl (s_ent (J_bn (s_jrun (mtk 0) fn fl ai (nI ho) i (lh, ls, lw, lt, bn, 0, 0))) (J_ls (s_jrun (mtk 0) fn fl ai (nI ho) i (lh, ls, lw, lt, bn, 0, 0))) 1))), (md 27, .inl (G.2.1, 60, .inl (s_ent (J_bn (s_jrun (mtk 0) fn fl ai (nI ho) i (lh, ls, lw, lt, bn, 0, 0))) (J_lw (s_jrun (mtk 0) fn fl ai (nI ho) i (lh, ls, lw, lt, bn, 0, 0))) (nI i)))), (md 28, .inl (G.2.1, 4, .inl (upd (J_lt (s_jrun (mtk 0) fn fl ai (nI ho) i (lh, ls, lw, lt, bn, 0, 0))) (fn i) (((J_lt (s_jrun (mtk 0) fn fl ai (nI ho) i (lh, ls, lw, lt, bn, 0, 0))) (fn i)) + 1))))]) (As := [.int 1, .int (nI i)]) (rest := []) (c_X4_breaks l G m0 md hk ho de fl ai rn rf rt bu (J_bn (s_jrun (mtk 0) fn fl ai (nI ho) i (lh, ls, lw, lt, bn, 0, 0))) (J_lh (s_jrun (mtk 0) fn fl ai (nI ho) i (lh, ls, lw, lt, bn, 0, 0))) (J_ls (s_jrun (mtk 0) fn fl ai (nI ho) i (lh, ls, lw, lt, bn, 0, 0))) (J_lw (s_jrun (mtk 0) fn fl ai (nI ho) i (lh, ls, lw, lt, bn, 0, 0))) 1 (nI i) (by have := hjb i; omega)) YX4_breaks mX4_119 dX4_judges_110 ciX4 0 rfl [0, 4, 5, 6] (by decide) rfl rfl rfl rfl rfl rfl (Nat.le_of_ble_eq_true rfl) (by decide) (by decide) ?_
              have hso : ¬ s_out (nI (fn i)) fl ai (nI ho) = 0 := by rw [show s_out (nI (fn i)) fl ai (nI ho) = 1 from by simp only [s_out, if_neg h76, if_neg h83, if_pos hlw]]; decide
              refine v_iinc (v := nI i + 1) (q := 3) (lv' := [(3, .int (nI i + 1)), (1, .int ((J_br (s_jrun (mtk 0) fn fl ai (nI ho) i (lh, ls, lw, lt, bn, 0, 0))) ||| (1 <<< (nI i &&& 31)))), (2, .int ((J_ta (s_jrun (mtk 0) fn fl ai (nI ho) i (lh, ls, lw, lt, bn, 0, 0))) ||| (1 <<< (nI i &&& 31)))), (4, .int 1), (0, .ref m0)]) dX4_judges_113 rfl rfl (by decide) rfl ?_
              refine v_goto (tgt := 17) dX4_judges_116 (by decide) ?_
              refine v_world (ws' := [(m0, .inr (4, [.int (nI hk), .int (nI ho), .int (nI de), .int fl, .int ai, .int rn, .int rf, .int rt, .ref (md 8), .ref (md 9), .ref (md 10), .ref (md 11), .ref (md 12), .ref (md 13), .ref (md 14), .ref (md 15), .ref (md 16), .ref (md 17), .ref (md 18), .ref (md 19), .ref (md 20), .ref (md 21), .ref (md 22), .int bu, .int (nI (J_bn (s_jrun (mtk 0) fn fl ai (nI ho) (i + 1) (lh, ls, lw, lt, bn, 0, 0)))), .ref (md 25), .ref (md 26), .ref (md 27), .ref (md 28)])), (md 8, .inl (G.2.1, 6, .inl (pN fn))), (md 14, .inl (G.2.1, 42, .inl (fl6 mtk))), (md 21, .inl (G.2.1, 7, .inl (fl7 mla))), (md 25, .inl (G.2.1, 60, .inl (J_lh (s_jrun (mtk 0) fn fl ai (nI ho) (i + 1) (lh, ls, lw, lt, bn, 0, 0))))), (md 26, .inl (G.2.1, 60, .inl (J_ls (s_jrun (mtk 0) fn fl ai (nI ho) (i + 1) (lh, ls, lw, lt, bn, 0, 0))))), (md 27, .inl (G.2.1, 60, .inl (J_lw (s_jrun (mtk 0) fn fl ai (nI ho) (i + 1) (lh, ls, lw, lt, bn, 0, 0))))), (md 28, .inl (G.2.1, 4, .inl (J_lt (s_jrun (mtk 0) fn fl ai (nI ho) (i + 1) (lh, ls, lw, lt, bn, 0, 0)))))]) (v_w5 (fun (z0 : Int32) (z1 : Nat → Int32) (z2 : Nat → Int32) (z3 : Nat → Int32) (z4 : Nat → Int32) => ([(m0, .inr (4, [.int (nI hk), .int (nI ho), .int (nI de), .int fl, .int ai, .int rn, .int rf, .int rt, .ref (md 8), .ref (md 9), .ref (md 10), .ref (md 11), .ref (md 12), .ref (md 13), .ref (md 14), .ref (md 15), .ref (md 16), .ref (md 17), .ref (md 18), .ref (md 19), .ref (md 20), .ref (md 21), .ref (md 22), .int bu, .int z0, .ref (md 25), .ref (md 26), .ref (md 27), .ref (md 28)])), (md 8, .inl (G.2.1, 6, .inl (pN fn))), (md 14, .inl (G.2.1, 42, .inl (fl6 mtk))), (md 21, .inl (G.2.1, 7, .inl (fl7 mla))), (md 25, .inl (G.2.1, 60, .inl z1)), (md 26, .inl (G.2.1, 60, .inl z2)), (md 27, .inl (G.2.1, 60, .inl z3)), (md 28, .inl (G.2.1, 4, .inl z4))] : va_W)) (by simp only [s_jrun, s_jst, if_neg h31, if_neg hso] <;> rfl) (by simp only [s_jrun, s_jst, if_neg h31, if_neg hso] <;> rfl) (by simp only [s_jrun, s_jst, if_neg h31, if_neg hso] <;> rfl) (by simp only [s_jrun, s_jst, if_neg h31, if_neg hso] <;> rfl) (by simp only [s_jrun, s_jst, if_neg h31, if_neg hso] <;> rfl)) ?_
              refine v_locals (lv' := [(3, .int (nI i + 1)), (2, .int ((J_ta (s_jrun (mtk 0) fn fl ai (nI ho) i (lh, ls, lw, lt, bn, 0, 0))) ||| (1 <<< (nI i &&& 31)))), (1, .int ((J_br (s_jrun (mtk 0) fn fl ai (nI ho) i (lh, ls, lw, lt, bn, 0, 0))) ||| (1 <<< (nI i &&& 31)))), (0, .ref m0)]) [0, 2, 1, 4] rfl ?_
              refine v_lveq (lv' := [(3, .int (nI (i + 1))), (2, .int (J_ta (s_jrun (mtk 0) fn fl ai (nI ho) (i + 1) (lh, ls, lw, lt, bn, 0, 0)))), (1, .int (J_br (s_jrun (mtk 0) fn fl ai (nI ho) (i + 1) (lh, ls, lw, lt, bn, 0, 0)))), (0, .ref m0)]) (v_l3 (fun (z0 : Int32) (z1 : Int32) (z2 : Int32) => ([(3, .int z0), (2, .int z1), (1, .int z2), (0, .ref m0)] : List (Nat × Value))) (nI_1 i) (by simp only [s_jrun, s_jst, if_neg h31, if_neg hso] <;> rfl) (by simp only [s_jrun, s_jst, if_neg h31, if_neg hso] <;> rfl)) ?_
              exact ih17 (i + 1) (by omega)
    refine v_world (ws' := [(m0, .inr (4, [.int (nI hk), .int (nI ho), .int (nI de), .int fl, .int ai, .int rn, .int rf, .int rt, .ref (md 8), .ref (md 9), .ref (md 10), .ref (md 11), .ref (md 12), .ref (md 13), .ref (md 14), .ref (md 15), .ref (md 16), .ref (md 17), .ref (md 18), .ref (md 19), .ref (md 20), .ref (md 21), .ref (md 22), .int bu, .int (nI (J_bn (s_jrun (mtk 0) fn fl ai (nI ho) 0 (lh, ls, lw, lt, bn, 0, 0)))), .ref (md 25), .ref (md 26), .ref (md 27), .ref (md 28)])), (md 8, .inl (G.2.1, 6, .inl (pN fn))), (md 14, .inl (G.2.1, 42, .inl (fl6 mtk))), (md 21, .inl (G.2.1, 7, .inl (fl7 mla))), (md 25, .inl (G.2.1, 60, .inl (J_lh (s_jrun (mtk 0) fn fl ai (nI ho) 0 (lh, ls, lw, lt, bn, 0, 0))))), (md 26, .inl (G.2.1, 60, .inl (J_ls (s_jrun (mtk 0) fn fl ai (nI ho) 0 (lh, ls, lw, lt, bn, 0, 0))))), (md 27, .inl (G.2.1, 60, .inl (J_lw (s_jrun (mtk 0) fn fl ai (nI ho) 0 (lh, ls, lw, lt, bn, 0, 0))))), (md 28, .inl (G.2.1, 4, .inl (J_lt (s_jrun (mtk 0) fn fl ai (nI ho) 0 (lh, ls, lw, lt, bn, 0, 0)))))]) rfl ?_
    refine v_lveq (lv' := [(3, .int (nI 0)), (2, .int (J_ta (s_jrun (mtk 0) fn fl ai (nI ho) 0 (lh, ls, lw, lt, bn, 0, 0)))), (1, .int (J_br (s_jrun (mtk 0) fn fl ai (nI ho) 0 (lh, ls, lw, lt, bn, 0, 0)))), (0, .ref m0)]) (v_l3 (fun (z0 : Int32) (z1 : Int32) (z2 : Int32) => ([(3, .int z0), (2, .int z1), (1, .int z2), (0, .ref m0)] : List (Nat × Value))) nI_0.symm rfl rfl) ?_
    exact loop17 hk 0 (by omega)
  · skip
    obtain ⟨e1, e2, e3, e4, e5⟩ := s_jrun_law (mtk 0) fn ai (nI ho) (lh, ls, lw, lt, bn, 0, 0) h7 hk
    have hme : (s_mill (s_short (mla 0) (s_ra fl rn rf rt (nI ho))) (nI ho) (s_jrun (mtk 0) fn fl ai (nI ho) hk (lh, ls, lw, lt, bn, 0, 0))) = (s_jrun (mtk 0) fn fl ai (nI ho) hk (lh, ls, lw, lt, bn, 0, 0)) := mill_no (by rw [ra_c (by rw [Int32.lt_iff_toInt_lt]; rw [Int32.le_iff_toInt_le] at h7; omega)]; exact (nB_0 (by decide) hla))
    exact v_vretM dX4_judges_10 (v_w5 (fun (z0 : Int32) (z1 : Nat → Int32) (z2 : Nat → Int32) (z3 : Nat → Int32) (z4 : Nat → Int32) => ([(m0, .inr (4, [.int (nI hk), .int (nI ho), .int (nI de), .int fl, .int ai, .int rn, .int rf, .int rt, .ref (md 8), .ref (md 9), .ref (md 10), .ref (md 11), .ref (md 12), .ref (md 13), .ref (md 14), .ref (md 15), .ref (md 16), .ref (md 17), .ref (md 18), .ref (md 19), .ref (md 20), .ref (md 21), .ref (md 22), .int bu, .int z0, .ref (md 25), .ref (md 26), .ref (md 27), .ref (md 28)])), (md 8, .inl (G.2.1, 6, .inl (pN fn))), (md 14, .inl (G.2.1, 42, .inl (fl6 mtk))), (md 21, .inl (G.2.1, 7, .inl (fl7 mla))), (md 25, .inl (G.2.1, 60, .inl z1)), (md 26, .inl (G.2.1, 60, .inl z2)), (md 27, .inl (G.2.1, 60, .inl z3)), (md 28, .inl (G.2.1, 4, .inl z4))] : va_W)) (by rw [hme, e5]; rfl) (by rw [hme, e1]; rfl) (by rw [hme, e2]; rfl) (by rw [hme, e3]; rfl) (by rw [hme, e4]; rfl))

set_option maxRecDepth 100000 in
set_option maxHeartbeats 4000000 in
theorem c_X4_flowsC (l : Launch) (G : v_Cfg) (m0 : Nat) (md : Nat → Nat) (hk : Nat) (ho : Nat) (de : Nat) (fl : Int32) (ai : Int32) (rn : Int32) (rf : Int32) (rt : Int32) (bu : Int32) (bn : Nat) (wi : Nat → Int32) (qu : Nat → Int32) (sh : Nat → Int32) (pn : Nat → Nat) (cs : Nat → CS) (s_ : Nat) (hs7 : s_ < 7) (hk6 : hk ≤ 6) (hpn : ∀ h, h < hk → 1 ≤ pn h ∧ pn h ≤ 4) (hfl : nB 1000 fl) (hq : ∀ h, h < hk → nB 4 (qu h)) (hsh : ∀ j, nB 50 (sh j)) (hai : aiB ai) (hg : ∀ j, nB 5000 (C_gr (cs s_) j)) : MuV l G yX4_flows cX4_flows 10 none 2 [.ref m0, .int (nI s_)] [(m0, .inr (4, [.int (nI hk), .int (nI ho), .int (nI de), .int fl, .int ai, .int rn, .int rf, .int rt, .ref (md 8), .ref (md 9), .ref (md 10), .ref (md 11), .ref (md 12), .ref (md 13), .ref (md 14), .ref (md 15), .ref (md 16), .ref (md 17), .ref (md 18), .ref (md 19), .ref (md 20), .ref (md 21), .ref (md 22), .int bu, .int (nI bn), .ref (md 25), .ref (md 26), .ref (md 27), .ref (md 28)])), (md 9, .inl (G.2.1, 6, .inl wi)), (md 10, .inl (G.2.1, 6, .inl (pN pn))), (md 11, .inl (G.2.1, 6, .inl qu)), (md 12, .inl (G.2.1, 24, .inl sh)), (md 13, .inl (G.2.1, 42, .inl (fl6 (fun s => C_ca (cs s))))), (md 14, .inl (G.2.1, 42, .inl (fl6 (fun s => C_tk (cs s))))), (md 15, .inl (G.2.1, 168, .inl (fl24 (fun s => C_gr (cs s))))), (md 16, .inl (G.2.1, 168, .inl (fl24 (fun s => C_go (cs s))))), (md 17, .inl (G.2.1, 168, .inl (fl24 (fun s => C_we (cs s))))), (md 18, .inl (G.2.1, 168, .inl (fl24 (fun s => C_dr (cs s))))), (md 19, .inl (G.2.1, 168, .inl (fl24 (fun s => C_ea (cs s))))), (md 20, .inl (G.2.1, 7, .inl (fl7 (fun s => C_mi (cs s))))), (md 21, .inl (G.2.1, 7, .inl (fl7 (fun s => C_am (cs s))))), (md 22, .inl (G.2.1, 7, .inl (fl7 (fun s => C_mb (cs s)))))] [(m0, .inr (4, [.int (nI hk), .int (nI ho), .int (nI de), .int fl, .int ai, .int rn, .int rf, .int rt, .ref (md 8), .ref (md 9), .ref (md 10), .ref (md 11), .ref (md 12), .ref (md 13), .ref (md 14), .ref (md 15), .ref (md 16), .ref (md 17), .ref (md 18), .ref (md 19), .ref (md 20), .ref (md 21), .ref (md 22), .int bu, .int (nI bn), .ref (md 25), .ref (md 26), .ref (md 27), .ref (md 28)])), (md 9, .inl (G.2.1, 6, .inl wi)), (md 10, .inl (G.2.1, 6, .inl (pN pn))), (md 11, .inl (G.2.1, 6, .inl qu)), (md 12, .inl (G.2.1, 24, .inl sh)), (md 13, .inl (G.2.1, 42, .inl (fl6 (fun s => C_ca ((sl cs s_ (s_pass (nvF s_) (nI ho) fl ai rn rf rt wi qu sh pn hk (cs s_))) s))))), (md 14, .inl (G.2.1, 42, .inl (fl6 (fun s => C_tk ((sl cs s_ (s_pass (nvF s_) (nI ho) fl ai rn rf rt wi qu sh pn hk (cs s_))) s))))), (md 15, .inl (G.2.1, 168, .inl (fl24 (fun s => C_gr ((sl cs s_ (s_pass (nvF s_) (nI ho) fl ai rn rf rt wi qu sh pn hk (cs s_))) s))))), (md 16, .inl (G.2.1, 168, .inl (fl24 (fun s => C_go ((sl cs s_ (s_pass (nvF s_) (nI ho) fl ai rn rf rt wi qu sh pn hk (cs s_))) s))))), (md 17, .inl (G.2.1, 168, .inl (fl24 (fun s => C_we ((sl cs s_ (s_pass (nvF s_) (nI ho) fl ai rn rf rt wi qu sh pn hk (cs s_))) s))))), (md 18, .inl (G.2.1, 168, .inl (fl24 (fun s => C_dr ((sl cs s_ (s_pass (nvF s_) (nI ho) fl ai rn rf rt wi qu sh pn hk (cs s_))) s))))), (md 19, .inl (G.2.1, 168, .inl (fl24 (fun s => C_ea ((sl cs s_ (s_pass (nvF s_) (nI ho) fl ai rn rf rt wi qu sh pn hk (cs s_))) s))))), (md 20, .inl (G.2.1, 7, .inl (fl7 (fun s => C_mi ((sl cs s_ (s_pass (nvF s_) (nI ho) fl ai rn rf rt wi qu sh pn hk (cs s_))) s))))), (md 21, .inl (G.2.1, 7, .inl (fl7 (fun s => C_am ((sl cs s_ (s_pass (nvF s_) (nI ho) fl ai rn rf rt wi qu sh pn hk (cs s_))) s))))), (md 22, .inl (G.2.1, 7, .inl (fl7 (fun s => C_mb ((sl cs s_ (s_pass (nvF s_) (nI ho) fl ai rn rf rt wi qu sh pn hk (cs s_))) s)))))] := by
  have h := (c_X4_flows l G m0 md hk ho de fl ai rn rf rt bu bn wi qu sh pn (fun s => C_ca (cs s)) (fun s => C_tk (cs s)) (fun s => C_gr (cs s)) (fun s => C_go (cs s)) (fun s => C_we (cs s)) (fun s => C_dr (cs s)) (fun s => C_ea (cs s)) (fun s => C_mi (cs s)) (fun s => C_am (cs s)) (fun s => C_mb (cs s)) s_ (C_du (cs s_)) hs7 hk6 hpn hfl hq hsh hai hg)
  rw [sl_map C_ca cs s_ (s_pass (nvF s_) (nI ho) fl ai rn rf rt wi qu sh pn hk (cs s_)), sl_map C_tk cs s_ (s_pass (nvF s_) (nI ho) fl ai rn rf rt wi qu sh pn hk (cs s_)), sl_map C_gr cs s_ (s_pass (nvF s_) (nI ho) fl ai rn rf rt wi qu sh pn hk (cs s_)), sl_map C_go cs s_ (s_pass (nvF s_) (nI ho) fl ai rn rf rt wi qu sh pn hk (cs s_)), sl_map C_we cs s_ (s_pass (nvF s_) (nI ho) fl ai rn rf rt wi qu sh pn hk (cs s_)), sl_map C_dr cs s_ (s_pass (nvF s_) (nI ho) fl ai rn rf rt wi qu sh pn hk (cs s_)), sl_map C_ea cs s_ (s_pass (nvF s_) (nI ho) fl ai rn rf rt wi qu sh pn hk (cs s_)), sl_mapU C_mi cs s_ (s_pass (nvF s_) (nI ho) fl ai rn rf rt wi qu sh pn hk (cs s_)), sl_mapU C_am cs s_ (s_pass (nvF s_) (nI ho) fl ai rn rf rt wi qu sh pn hk (cs s_)), sl_mapU C_mb cs s_ (s_pass (nvF s_) (nI ho) fl ai rn rf rt wi qu sh pn hk (cs s_))]
  exact h

/-! ===== the pure words ===== -/
def s_max (x y : Int32) : Int32 := if x < y then y else x
def s_min (x y : Int32) : Int32 := if y < x then y else x
def s_in (n lo hi : Int32) : Int32 := if n < lo then 0 else if hi < n then 0 else 1
def s_ish (h hn : Int32) : Int32 := if h < 0 then 0 else if hn ≤ h then 0 else 1
def s_isp (h p hn pah : Int32) : Int32 := if s_ish h hn = 0 then 0 else if p < 0 then 0 else if pah ≤ p then 0 else 1
def s_law (fl : Int32) : Int32 := if fl ≤ 400 then 0 else 1
def s_mod (x y : Int32) : Int32 := x - x / y * y
def s_out (fa fl ai hour : Int32) : Int32 := if s_mod (hour / 24) 4 = fa then 0 else if ai < 0 then 0 else if s_law fl = 0 then 1 else 0
def s_ra (fl rn rf rt hour : Int32) : Int32 := if s_mod hour 24 < rf then 0 else if rt ≤ s_mod hour 24 then 0 else if s_law fl = 0 then rn else 0
def s_gz (hour : Int32) : Int32 := s_in (s_mod hour 24) 6 17
def s_short (am r : Int32) : Int32 := if r ≤ am then 0 else 1
def s_most (w c : Int32) : Int32 := s_max 0 (w - c / 100 / 10)
section VX
variable {p : Program} {l : Launch} {e : Env} {R : Room} {s : State} {m : MethodId} {args : Array Value} {below : List Frame} {meth : Method} {c : Code} {Q : State → Prop} {G : v_Cfg} {I : va_W → Heap → List Loc → Prop} {cc : ByteArray} {own : String} {nL : Nat} {ret : Option FieldType} {ws : va_W} {k n : Nat} {lv : List (Nat × Value)} {pc : Nat} {st : List Value}
theorem v_irm {x y : Int32} (hdg : decode cc pc = .ok (.irem, 1)) (hne : ¬ y = 0) (kk : V p l e R s m args below meth c Q G I cc own nL ret ws k n lv (pc + 1) (.int (s_mod x y) :: st)) : V p l e R s m args below meth c Q G I cc own nL ret ws k n lv pc (.int y :: .int x :: st) := v_irem hdg hne kk
theorem v_xmax {index : Nat} {x y : Int32} (h : v_LM own index Lib.Math.max.name Lib.Math.max.code) (hdg : decode cc pc = .ok (.invokestatic index, 3)) (hR : 1 ≤ R.frames ∧ (st.map fun v => v.category).sum + 13 ≤ R.locals ∧ k ≤ R.cells ∧ n ≤ R.slots) (kk : V p l e R s m args below meth c Q G I cc own nL ret ws k n lv (pc + 3) (.int (s_max x y) :: st)) : V p l e R s m args below meth c Q G I cc own nL ret ws k n lv pc (.int y :: .int x :: st) := v_mmax h hdg hR kk
theorem v_xmin {index : Nat} {x y : Int32} (h : v_LM own index Lib.Math.min.name Lib.Math.min.code) (hdg : decode cc pc = .ok (.invokestatic index, 3)) (hR : 1 ≤ R.frames ∧ (st.map fun v => v.category).sum + 13 ≤ R.locals ∧ k ≤ R.cells ∧ n ≤ R.slots) (kk : V p l e R s m args below meth c Q G I cc own nL ret ws k n lv (pc + 3) (.int (s_min x y) :: st)) : V p l e R s m args below meth c Q G I cc own nL ret ws k n lv pc (.int y :: .int x :: st) := v_mmin h hdg hR kk
end VX
theorem s_in_nar (a b c : Int32) : narrow .boolean (.int (s_in a b c)) = .int (s_in a b c) := by
  unfold s_in; split
  · rfl
  · split <;> rfl
theorem u_id (f : Nat → Int32) (k : Nat) : upd f k (f k) = f := by
  funext j; unfold upd; split
  · rename_i h; rw [h]
  · rfl
theorem v_w1 {α : Type} (f : α → va_W) {a b : α} (h : a = b) : f a = f b := by rw [h]
theorem v_w2 {α β : Type} (f : α → β → va_W) {a a' : α} {b b' : β} (h : a = a') (h2 : b = b') : f a b = f a' b' := by rw [h, h2]
theorem v_w3 {α β γ : Type} (f : α → β → γ → va_W) {a a' : α} {b b' : β} {c c' : γ} (h : a = a') (h2 : b = b') (h3 : c = c') : f a b c = f a' b' c' := by rw [h, h2, h3]
theorem v_w4 {α β γ δ : Type} (f : α → β → γ → δ → va_W) {a a' : α} {b b' : β} {c c' : γ} {d d' : δ} (h : a = a') (h2 : b = b') (h3 : c = c') (h4 : d = d') : f a b c d = f a' b' c' d' := by rw [h, h2, h3, h4]
theorem v_w5 {α β γ δ ε : Type} (f : α → β → γ → δ → ε → va_W) {a a' : α} {b b' : β} {c c' : γ} {d d' : δ} {e e' : ε} (h : a = a') (h2 : b = b') (h3 : c = c') (h4 : d = d') (h5 : e = e') : f a b c d e = f a' b' c' d' e' := by rw [h, h2, h3, h4, h5]
theorem s_ish_ix {h : Int32} {k : Nat} (hk : k ≤ 6) (hh : ¬ s_ish h (nI k) = 0) : h = nI h.toNatClampNeg ∧ h.toNatClampNeg < k := by
  unfold s_ish at hh
  split at hh
  · exact absurd rfl hh
  · rename_i h0
    split at hh
    · exact absurd rfl hh
    · rename_i h1
      obtain ⟨j, hj, rfl⟩ := nI_of h0
      rw [nI_clamp hj]
      refine ⟨rfl, ?_⟩
      rcases Nat.lt_or_ge j k with q | q
      · exact q
      · exact absurd (nI_le q hj) h1

set_option maxRecDepth 100000 in
set_option maxHeartbeats 4000000 in
theorem c_X3_isWithin (l : Launch) (G : v_Cfg) (n : Int32) (lo : Int32) (hi : Int32)  : RdI l G yX3_isWithin cX3_isWithin 3 (some .boolean) 0 [.int n, .int lo, .int hi] [] (s_in n lo hi) := by
  refine RdI.of (own := RX3) (by decide) rfl (Nat.le_of_ble_eq_true rfl) (fun p e s m below meth c => ?_)
  refine v_iload_n dX3_isWithin_0 rfl 0 rfl ?_
  refine v_iload_n dX3_isWithin_1 rfl 1 rfl ?_
  refine v_icmp_lt (tgt := 14) dX3_isWithin_2 (by decide) (fun h2 => ?_) (fun h2 => ?_)
  · skip
    refine v_iconst (v := 0) dX3_isWithin_14 (by decide) ?_
    exact v_zretR dX3_isWithin_15 (by simp only [s_in, if_pos h2]) rfl
  · skip
    refine v_iload_n dX3_isWithin_5 rfl 0 rfl ?_
    refine v_iload_n dX3_isWithin_6 rfl 2 rfl ?_
    refine v_icmp_gt (tgt := 14) dX3_isWithin_7 (by decide) (fun h7 => ?_) (fun h7 => ?_)
    · skip
      refine v_iconst (v := 0) dX3_isWithin_14 (by decide) ?_
      exact v_zretR dX3_isWithin_15 (by simp only [s_in, if_neg h2, if_pos h7]) rfl
    · skip
      refine v_iconst (v := 1) dX3_isWithin_10 (by decide) ?_
      refine v_goto (tgt := 15) dX3_isWithin_11 (by decide) ?_
      exact v_zretR dX3_isWithin_15 (by simp only [s_in, if_neg h2, if_neg h7]) rfl

set_option maxRecDepth 100000 in
set_option maxHeartbeats 4000000 in
theorem c_X3_placeOf (l : Launch) (G : v_Cfg) (h : Nat) (q : Nat)  : RdI l G yX3_placeOf cX3_placeOf 2 (some .int) 0 [.int (nI h), .int (nI q)] [] (nI (4 * h + q)) := by
  refine RdI.of (own := RX3) (by decide) rfl (Nat.le_of_ble_eq_true rfl) (fun p e s m below meth c => ?_)
  refine v_iload_n dX3_placeOf_0 rfl 0 rfl ?_
  refine v_iconst (v := 4) dX3_placeOf_1 (by decide) ?_
  refine v_imul dX3_placeOf_2 ?_
  refine v_iload_n dX3_placeOf_3 rfl 1 rfl ?_
  refine v_iadd dX3_placeOf_4 ?_
  exact v_iretR dX3_placeOf_5 (by rw [show (4 : Int32) = nI 4 from rfl, pk_mul, nI_add, Nat.mul_comm])

set_option maxRecDepth 100000 in
set_option maxHeartbeats 4000000 in
theorem c_X2_isHatch (l : Launch) (G : v_Cfg) (o0 : Nat) (oFa : Nat) (oWi : Nat) (oPa : Nat) (oQu : Nat) (oSh : Nat) (hk : Nat) (fl : Int32) (ai : Int32) (rn : Int32) (rf : Int32) (rt : Int32) (x : Int32)  : RdI l G yX2_isHatch cX2_isHatch 2 (some .boolean) 0 [.ref o0, .int x] [(o0, .inr (2, [.ref oFa, .ref oWi, .ref oPa, .ref oQu, .ref oSh, .int (nI hk), .int fl, .int ai, .int rn, .int rf, .int rt]))] (s_ish x (nI hk)) := by
  refine RdI.of (own := RX2) (by decide) rfl (Nat.le_of_ble_eq_true rfl) (fun p e s m below meth c => ?_)
  refine v_iload_n dX2_isHatch_0 rfl 1 rfl ?_
  refine v_if_lt (tgt := 16) dX2_isHatch_1 (by decide) (fun h1 => ?_) (fun h1 => ?_)
  · skip
    refine v_iconst (v := 0) dX2_isHatch_16 (by decide) ?_
    exact v_zretR dX2_isHatch_17 (by simp only [s_ish, if_pos h1]) rfl
  · skip
    refine v_iload_n dX2_isHatch_4 rfl 1 rfl ?_
    refine v_aload_n dX2_isHatch_5 rfl 0 rfl ?_
    refine v_get fX2_34 dX2_isHatch_6 0 rfl rfl ?_
    refine v_icmp_ge (tgt := 16) dX2_isHatch_9 (by decide) (fun h9 => ?_) (fun h9 => ?_)
    · skip
      refine v_iconst (v := 0) dX2_isHatch_16 (by decide) ?_
      exact v_zretR dX2_isHatch_17 (by simp only [s_ish, if_neg h1, if_pos h9]) rfl
    · skip
      refine v_iconst (v := 1) dX2_isHatch_12 (by decide) ?_
      refine v_goto (tgt := 17) dX2_isHatch_13 (by decide) ?_
      exact v_zretR dX2_isHatch_17 (by simp only [s_ish, if_neg h1, if_neg h9]) rfl

set_option maxRecDepth 100000 in
set_option maxHeartbeats 4000000 in
theorem c_X2_isPane (l : Launch) (G : v_Cfg) (o0 : Nat) (oFa : Nat) (oWi : Nat) (oPa : Nat) (oQu : Nat) (oSh : Nat) (hk : Nat) (fl : Int32) (ai : Int32) (rn : Int32) (rf : Int32) (rt : Int32) (pa : Nat → Int32) (x : Int32) (y : Int32) (hk6 : hk ≤ 6) : RdI l G yX2_isPane cX2_isPane 3 (some .boolean) 1 [.ref o0, .int x, .int y] [(o0, .inr (2, [.ref oFa, .ref oWi, .ref oPa, .ref oQu, .ref oSh, .int (nI hk), .int fl, .int ai, .int rn, .int rf, .int rt])), (oPa, .inl (G.2.1, 6, .inl pa))] (s_isp x y (nI hk) (pa x.toNatClampNeg)) := by
  refine RdI.of (own := RX2) (by decide) rfl (Nat.le_of_ble_eq_true rfl) (fun p e s m below meth c => ?_)
  refine v_aload_n dX2_isPane_0 rfl 0 rfl ?_
  refine v_iload_n dX2_isPane_1 rfl 1 rfl ?_
  refine v_vRd (As := [.int x]) (rest := []) (c_X2_isHatch l G o0 oFa oWi oPa oQu oSh hk fl ai rn rf rt x ) YX2_isHatch mX2_37 dX2_isPane_2 ciX2 0 rfl [0] rfl rfl rfl (Nat.le_of_ble_eq_true rfl) (by decide) (by decide) ?_
  refine v_if_eq (tgt := 26) dX2_isPane_5 (by decide) (fun h5 => ?_) (fun h5 => ?_)
  · skip
    refine v_iconst (v := 0) dX2_isPane_26 (by decide) ?_
    exact v_zretR dX2_isPane_27 (by simp only [s_isp, if_pos h5]) rfl
  · skip
    refine v_iload_n dX2_isPane_8 rfl 2 rfl ?_
    refine v_if_lt (tgt := 26) dX2_isPane_9 (by decide) (fun h9 => ?_) (fun h9 => ?_)
    · skip
      refine v_iconst (v := 0) dX2_isPane_26 (by decide) ?_
      exact v_zretR dX2_isPane_27 (by simp only [s_isp, if_neg h5, if_pos h9]) rfl
    · skip
      refine v_iload_n dX2_isPane_12 rfl 2 rfl ?_
      refine v_aload_n dX2_isPane_13 rfl 0 rfl ?_
      refine v_get fX2_18 dX2_isPane_14 0 rfl rfl ?_
      refine v_iload_n dX2_isPane_17 rfl 1 rfl ?_
      refine v_iald dX2_isPane_18 1 rfl x.toNatClampNeg ((s_ish_ix hk6 h5).1) (Nat.lt_of_lt_of_le (s_ish_ix hk6 h5).2 hk6) (by decide) ?_
      refine v_icmp_ge (tgt := 26) dX2_isPane_19 (by decide) (fun h19 => ?_) (fun h19 => ?_)
      · skip
        refine v_iconst (v := 0) dX2_isPane_26 (by decide) ?_
        exact v_zretR dX2_isPane_27 (by simp only [s_isp, if_neg h5, if_neg h9, if_pos h19]) rfl
      · skip
        refine v_iconst (v := 1) dX2_isPane_22 (by decide) ?_
        refine v_goto (tgt := 27) dX2_isPane_23 (by decide) ?_
        exact v_zretR dX2_isPane_27 (by simp only [s_isp, if_neg h5, if_neg h9, if_neg h19]) rfl

set_option maxRecDepth 100000 in
set_option maxHeartbeats 4000000 in
theorem c_X2_isLawless (l : Launch) (G : v_Cfg) (o0 : Nat) (oFa : Nat) (oWi : Nat) (oPa : Nat) (oQu : Nat) (oSh : Nat) (hk : Nat) (fl : Int32) (ai : Int32) (rn : Int32) (rf : Int32) (rt : Int32)  : RdI l G yX2_isLawless cX2_isLawless 1 (some .boolean) 0 [.ref o0] [(o0, .inr (2, [.ref oFa, .ref oWi, .ref oPa, .ref oQu, .ref oSh, .int (nI hk), .int fl, .int ai, .int rn, .int rf, .int rt]))] (s_law fl) := by
  refine RdI.of (own := RX2) (by decide) rfl (Nat.le_of_ble_eq_true rfl) (fun p e s m below meth c => ?_)
  refine v_aload_n dX2_isLawless_0 rfl 0 rfl ?_
  refine v_get fX2_27 dX2_isLawless_1 0 rfl rfl ?_
  refine v_sipush (v := 400) dX2_isLawless_4 (by decide) ?_
  refine v_icmp_le (tgt := 14) dX2_isLawless_7 (by decide) (fun h7 => ?_) (fun h7 => ?_)
  · skip
    refine v_iconst (v := 0) dX2_isLawless_14 (by decide) ?_
    exact v_zretR dX2_isLawless_15 (by simp only [s_law, if_pos h7]) rfl
  · skip
    refine v_iconst (v := 1) dX2_isLawless_10 (by decide) ?_
    refine v_goto (tgt := 15) dX2_isLawless_11 (by decide) ?_
    exact v_zretR dX2_isLawless_15 (by simp only [s_law, if_neg h7]) rfl

set_option maxRecDepth 100000 in
set_option maxHeartbeats 4000000 in
theorem c_X2_isOutOfTurn (l : Launch) (G : v_Cfg) (o0 : Nat) (oFa : Nat) (oWi : Nat) (oPa : Nat) (oQu : Nat) (oSh : Nat) (hk : Nat) (fl : Int32) (ai : Int32) (rn : Int32) (rf : Int32) (rt : Int32) (fa : Nat → Int32) (h : Nat) (x : Int32) (hh : h < 6) : RdI l G yX2_isOutOfTurn cX2_isOutOfTurn 4 (some .boolean) 1 [.ref o0, .int (nI h), .int x] [(o0, .inr (2, [.ref oFa, .ref oWi, .ref oPa, .ref oQu, .ref oSh, .int (nI hk), .int fl, .int ai, .int rn, .int rf, .int rt])), (oFa, .inl (G.2.1, 6, .inl fa))] (s_out (fa h) fl ai x) := by
  refine RdI.of (own := RX2) (by decide) rfl (Nat.le_of_ble_eq_true rfl) (fun p e s m below meth c => ?_)
  refine v_iload_n dX2_isOutOfTurn_0 rfl 2 rfl ?_
  refine v_bipush (v := 24) dX2_isOutOfTurn_1 (by decide) ?_
  refine v_idiv dX2_isOutOfTurn_3 (by decide) ?_
  refine v_iconst (v := 4) dX2_isOutOfTurn_4 (by decide) ?_
  refine v_irm dX2_isOutOfTurn_5 (by decide) ?_
  refine v_aload_n dX2_isOutOfTurn_6 rfl 0 rfl ?_
  refine v_get fX2_9 dX2_isOutOfTurn_7 0 rfl rfl ?_
  refine v_iload_n dX2_isOutOfTurn_10 rfl 1 rfl ?_
  refine v_iald dX2_isOutOfTurn_11 1 rfl h rfl (by omega) (by decide) ?_
  refine v_icmp_ne (tgt := 19) dX2_isOutOfTurn_12 (by decide) (fun h12 => ?_) (fun h12 => ?_)
  · skip
    refine v_iconst (v := 0) dX2_isOutOfTurn_19 (by decide) ?_
    refine v_istore_n (lv' := [(3, .int 0), (0, .ref o0), (1, .int (nI h)), (2, .int x)]) dX2_isOutOfTurn_20 rfl (by decide) rfl ?_
    refine v_iload_n dX2_isOutOfTurn_21 rfl 0 rfl ?_
    refine v_if_ne (tgt := 43) dX2_isOutOfTurn_22 (by decide) (fun h22 => absurd h22 (by decide)) (fun h22 => ?_)
    refine v_aload_n dX2_isOutOfTurn_25 rfl 1 rfl ?_
    refine v_get fX2_31 dX2_isOutOfTurn_26 0 rfl rfl ?_
    refine v_if_lt (tgt := 43) dX2_isOutOfTurn_29 (by decide) (fun h29 => ?_) (fun h29 => ?_)
    · skip
      refine v_iconst (v := 0) dX2_isOutOfTurn_43 (by decide) ?_
      exact v_zretR dX2_isOutOfTurn_44 (by simp only [s_out, if_neg h12, if_pos h29]) rfl
    · skip
      refine v_aload_n dX2_isOutOfTurn_32 rfl 1 rfl ?_
      refine v_vRd (As := []) (rest := []) (c_X2_isLawless l G o0 oFa oWi oPa oQu oSh hk fl ai rn rf rt ) YX2_isLawless mX2_41 dX2_isOutOfTurn_33 ciX2 0 rfl [0] rfl rfl rfl (Nat.le_of_ble_eq_true rfl) (by decide) (by decide) ?_
      refine v_if_ne (tgt := 43) dX2_isOutOfTurn_36 (by decide) (fun h36 => ?_) (fun h36 => ?_)
      · skip
        refine v_iconst (v := 0) dX2_isOutOfTurn_43 (by decide) ?_
        exact v_zretR dX2_isOutOfTurn_44 (by simp only [s_out, if_neg h12, if_neg h29, if_neg h36]) rfl
      · skip
        refine v_iconst (v := 1) dX2_isOutOfTurn_39 (by decide) ?_
        refine v_goto (tgt := 44) dX2_isOutOfTurn_40 (by decide) ?_
        exact v_zretR dX2_isOutOfTurn_44 (by simp only [s_out, if_neg h12, if_neg h29, if_pos h36]) rfl
  · skip
    refine v_iconst (v := 1) dX2_isOutOfTurn_15 (by decide) ?_
    refine v_goto (tgt := 20) dX2_isOutOfTurn_16 (by decide) ?_
    refine v_istore_n (lv' := [(3, .int 1), (0, .ref o0), (1, .int (nI h)), (2, .int x)]) dX2_isOutOfTurn_20 rfl (by decide) rfl ?_
    refine v_iload_n dX2_isOutOfTurn_21 rfl 0 rfl ?_
    refine v_if_ne (tgt := 43) dX2_isOutOfTurn_22 (by decide) (fun h22 => ?_) (fun h22 => absurd h22 (by decide))
    refine v_iconst (v := 0) dX2_isOutOfTurn_43 (by decide) ?_
    exact v_zretR dX2_isOutOfTurn_44 (by simp only [s_out, if_pos h12]) rfl

set_option maxRecDepth 100000 in
set_option maxHeartbeats 4000000 in
theorem c_X2_rightAt (l : Launch) (G : v_Cfg) (o0 : Nat) (oFa : Nat) (oWi : Nat) (oPa : Nat) (oQu : Nat) (oSh : Nat) (hk : Nat) (fl : Int32) (ai : Int32) (rn : Int32) (rf : Int32) (rt : Int32) (x : Int32)  : RdI l G yX2_rightAt cX2_rightAt 4 (some .int) 1 [.ref o0, .int x] [(o0, .inr (2, [.ref oFa, .ref oWi, .ref oPa, .ref oQu, .ref oSh, .int (nI hk), .int fl, .int ai, .int rn, .int rf, .int rt]))] (s_ra fl rn rf rt x) := by
  refine RdI.of (own := RX2) (by decide) rfl (Nat.le_of_ble_eq_true rfl) (fun p e s m below meth c => ?_)
  refine v_iload_n dX2_rightAt_0 rfl 1 rfl ?_
  refine v_bipush (v := 24) dX2_rightAt_1 (by decide) ?_
  refine v_irm dX2_rightAt_3 (by decide) ?_
  refine v_istore_n (lv' := [(2, .int (s_mod x 24)), (0, .ref o0), (1, .int x)]) dX2_rightAt_4 rfl (by decide) rfl ?_
  refine v_iload_n dX2_rightAt_5 rfl 0 rfl ?_
  refine v_aload_n dX2_rightAt_6 rfl 1 rfl ?_
  refine v_get fX2_45 dX2_rightAt_7 0 rfl rfl ?_
  refine v_icmp_lt (tgt := 32) dX2_rightAt_10 (by decide) (fun h10 => ?_) (fun h10 => ?_)
  · skip
    refine v_iconst (v := 0) dX2_rightAt_32 (by decide) ?_
    refine v_istore_n (lv' := [(3, .int 0), (2, .int (s_mod x 24)), (0, .ref o0), (1, .int x)]) dX2_rightAt_33 rfl (by decide) rfl ?_
    refine v_iload_n dX2_rightAt_34 rfl 0 rfl ?_
    refine v_if_eq (tgt := 45) dX2_rightAt_35 (by decide) (fun h35 => ?_) (fun h35 => absurd h35 (by decide))
    refine v_iconst (v := 0) dX2_rightAt_45 (by decide) ?_
    exact v_iretR dX2_rightAt_46 (by simp only [s_ra, if_pos h10])
  · skip
    refine v_iload_n dX2_rightAt_13 rfl 0 rfl ?_
    refine v_aload_n dX2_rightAt_14 rfl 1 rfl ?_
    refine v_get fX2_48 dX2_rightAt_15 0 rfl rfl ?_
    refine v_icmp_ge (tgt := 32) dX2_rightAt_18 (by decide) (fun h18 => ?_) (fun h18 => ?_)
    · skip
      refine v_iconst (v := 0) dX2_rightAt_32 (by decide) ?_
      refine v_istore_n (lv' := [(3, .int 0), (2, .int (s_mod x 24)), (0, .ref o0), (1, .int x)]) dX2_rightAt_33 rfl (by decide) rfl ?_
      refine v_iload_n dX2_rightAt_34 rfl 0 rfl ?_
      refine v_if_eq (tgt := 45) dX2_rightAt_35 (by decide) (fun h35 => ?_) (fun h35 => absurd h35 (by decide))
      refine v_iconst (v := 0) dX2_rightAt_45 (by decide) ?_
      exact v_iretR dX2_rightAt_46 (by simp only [s_ra, if_neg h10, if_pos h18])
    · skip
      refine v_aload_n dX2_rightAt_21 rfl 1 rfl ?_
      refine v_vRd (As := []) (rest := []) (c_X2_isLawless l G o0 oFa oWi oPa oQu oSh hk fl ai rn rf rt ) YX2_isLawless mX2_41 dX2_rightAt_22 ciX2 0 rfl [0] rfl rfl rfl (Nat.le_of_ble_eq_true rfl) (by decide) (by decide) ?_
      refine v_if_ne (tgt := 32) dX2_rightAt_25 (by decide) (fun h25 => ?_) (fun h25 => ?_)
      · skip
        refine v_iconst (v := 0) dX2_rightAt_32 (by decide) ?_
        refine v_istore_n (lv' := [(3, .int 0), (2, .int (s_mod x 24)), (0, .ref o0), (1, .int x)]) dX2_rightAt_33 rfl (by decide) rfl ?_
        refine v_iload_n dX2_rightAt_34 rfl 0 rfl ?_
        refine v_if_eq (tgt := 45) dX2_rightAt_35 (by decide) (fun h35 => ?_) (fun h35 => absurd h35 (by decide))
        refine v_iconst (v := 0) dX2_rightAt_45 (by decide) ?_
        exact v_iretR dX2_rightAt_46 (by simp only [s_ra, if_neg h10, if_neg h18, if_neg h25])
      · skip
        refine v_iconst (v := 1) dX2_rightAt_28 (by decide) ?_
        refine v_goto (tgt := 33) dX2_rightAt_29 (by decide) ?_
        refine v_istore_n (lv' := [(3, .int 1), (2, .int (s_mod x 24)), (0, .ref o0), (1, .int x)]) dX2_rightAt_33 rfl (by decide) rfl ?_
        refine v_iload_n dX2_rightAt_34 rfl 0 rfl ?_
        refine v_if_eq (tgt := 45) dX2_rightAt_35 (by decide) (fun h35 => absurd h35 (by decide)) (fun h35 => ?_)
        refine v_aload_n dX2_rightAt_38 rfl 2 rfl ?_
        refine v_get fX2_51 dX2_rightAt_39 0 rfl rfl ?_
        refine v_goto (tgt := 46) dX2_rightAt_42 (by decide) ?_
        exact v_iretR dX2_rightAt_46 (by simp only [s_ra, if_neg h10, if_neg h18, if_pos h25])

set_option maxRecDepth 100000 in
set_option maxHeartbeats 4000000 in
theorem c_X2_isGrazing (l : Launch) (G : v_Cfg) (o0 : Nat) (oFa : Nat) (oWi : Nat) (oPa : Nat) (oQu : Nat) (oSh : Nat) (hk : Nat) (fl : Int32) (ai : Int32) (rn : Int32) (rf : Int32) (rt : Int32) (x : Int32)  : RdI l G yX2_isGrazing cX2_isGrazing 2 (some .boolean) 1 [.ref o0, .int x] [(o0, .inr (2, [.ref oFa, .ref oWi, .ref oPa, .ref oQu, .ref oSh, .int (nI hk), .int fl, .int ai, .int rn, .int rf, .int rt]))] (s_gz x) := by
  refine RdI.of (own := RX2) (by decide) rfl (Nat.le_of_ble_eq_true rfl) (fun p e s m below meth c => ?_)
  refine v_iload_n dX2_isGrazing_0 rfl 1 rfl ?_
  refine v_bipush (v := 24) dX2_isGrazing_1 (by decide) ?_
  refine v_irm dX2_isGrazing_3 (by decide) ?_
  refine v_bipush (v := 6) dX2_isGrazing_4 (by decide) ?_
  refine v_bipush (v := 17) dX2_isGrazing_6 (by decide) ?_
  refine v_nRd (host := RX3) (As := [.int (s_mod x 24), .int 6, .int 17]) (rest := []) (c_X3_isWithin l G (s_mod x 24) 6 17 ) YX3_isWithin sisWithin (fun hL => hL.2.2) dX2_isGrazing_8 [] rfl rfl rfl (Nat.le_of_ble_eq_true rfl) (by decide) (by decide) ?_
  exact v_zretR dX2_isGrazing_11 rfl (s_in_nar _ _ _)

set_option maxRecDepth 100000 in
set_option maxHeartbeats 4000000 in
theorem c_X0_siltOf (l : Launch) (G : v_Cfg) (c0 : Nat) (o0 : Nat) (nv : Int32) (aCa : Nat) (aTk : Nat) (aGr : Nat) (aGo : Nat) (aWe : Nat) (aDr : Nat) (aEa : Nat) (br : Int32) (du : Int32) (mi : Int32) (am : Int32) (mb : Int32) (ca : Nat → Int32) (h : Nat) (hh : h < 6) : RdI l G yX0_siltOf cX0_siltOf 2 (some .int) 0 [.ref c0, .int (nI h)] [(c0, .inr (0, [.ref o0, .int nv, .ref aCa, .ref aTk, .ref aGr, .ref aGo, .ref aWe, .ref aDr, .ref aEa, .int br, .int du, .int mi, .int am, .int mb])), (aCa, .inl (G.2.1, 6, .inl ca))] (ca h / 100) := by
  refine RdI.of (own := RX0) (by decide) rfl (Nat.le_of_ble_eq_true rfl) (fun p e s m below meth c => ?_)
  refine v_aload_n dX0_siltOf_0 rfl 0 rfl ?_
  refine v_get fX0_9 dX0_siltOf_1 0 rfl rfl ?_
  refine v_iload_n dX0_siltOf_4 rfl 1 rfl ?_
  refine v_iald dX0_siltOf_5 1 rfl h rfl (by omega) (by decide) ?_
  refine v_bipush (v := 100) dX0_siltOf_6 (by decide) ?_
  refine v_idiv dX0_siltOf_8 (by decide) ?_
  exact v_iretR dX0_siltOf_9 rfl

set_option maxRecDepth 100000 in
set_option maxHeartbeats 4000000 in
theorem c_X0_mostOf (l : Launch) (G : v_Cfg) (c0 : Nat) (o0 : Nat) (nv : Int32) (aCa : Nat) (aTk : Nat) (aGr : Nat) (aGo : Nat) (aWe : Nat) (aDr : Nat) (aEa : Nat) (br : Int32) (du : Int32) (mi : Int32) (am : Int32) (mb : Int32) (oFa : Nat) (oWi : Nat) (oPa : Nat) (oQu : Nat) (oSh : Nat) (hk : Nat) (fl : Int32) (ai : Int32) (rn : Int32) (rf : Int32) (rt : Int32) (ca : Nat → Int32) (wi : Nat → Int32) (h : Nat) (hh : h < 6) : RdI l G yX0_mostOf cX0_mostOf 2 (some .int) 1 [.ref c0, .int (nI h)] [(c0, .inr (0, [.ref o0, .int nv, .ref aCa, .ref aTk, .ref aGr, .ref aGo, .ref aWe, .ref aDr, .ref aEa, .int br, .int du, .int mi, .int am, .int mb])), (aCa, .inl (G.2.1, 6, .inl ca)), (o0, .inr (2, [.ref oFa, .ref oWi, .ref oPa, .ref oQu, .ref oSh, .int (nI hk), .int fl, .int ai, .int rn, .int rf, .int rt])), (oWi, .inl (G.2.1, 6, .inl wi))] (s_most (wi h) (ca h)) := by
  refine RdI.of (own := RX0) (by decide) rfl (Nat.le_of_ble_eq_true rfl) (fun p e s m below meth c => ?_)
  refine v_iconst (v := 0) dX0_mostOf_0 (by decide) ?_
  refine v_aload_n dX0_mostOf_1 rfl 0 rfl ?_
  refine v_get fX0_33 dX0_mostOf_2 0 rfl rfl ?_
  refine v_get fX0_41 dX0_mostOf_5 2 rfl rfl ?_
  refine v_iload_n dX0_mostOf_8 rfl 1 rfl ?_
  refine v_iald dX0_mostOf_9 3 rfl h rfl (by omega) (by decide) ?_
  refine v_aload_n dX0_mostOf_10 rfl 0 rfl ?_
  refine v_iload_n dX0_mostOf_11 rfl 1 rfl ?_
  refine v_vRd (As := [.int (nI h)]) (rest := [.int (wi h), .int 0]) (c_X0_siltOf l G c0 o0 nv aCa aTk aGr aGo aWe aDr aEa br du mi am mb ca h (by omega)) YX0_siltOf mX0_46 dX0_mostOf_12 ciX0 0 rfl [0, 1] rfl rfl rfl (Nat.le_of_ble_eq_true rfl) (by decide) (by decide) ?_
  refine v_bipush (v := 10) dX0_mostOf_15 (by decide) ?_
  refine v_idiv dX0_mostOf_17 (by decide) ?_
  refine v_isub dX0_mostOf_18 ?_
  refine v_xmax mX0_50 dX0_mostOf_19 ⟨by decide, Nat.le_of_ble_eq_true rfl, by decide, by decide⟩ ?_
  exact v_iretR dX0_mostOf_22 rfl

set_option maxRecDepth 100000 in
set_option maxHeartbeats 4000000 in
theorem c_X0_isMillShort (l : Launch) (G : v_Cfg) (c0 : Nat) (o0 : Nat) (nv : Int32) (aCa : Nat) (aTk : Nat) (aGr : Nat) (aGo : Nat) (aWe : Nat) (aDr : Nat) (aEa : Nat) (br : Int32) (du : Int32) (mi : Int32) (am : Int32) (mb : Int32) (oFa : Nat) (oWi : Nat) (oPa : Nat) (oQu : Nat) (oSh : Nat) (hk : Nat) (fl : Int32) (ai : Int32) (rn : Int32) (rf : Int32) (rt : Int32) (x : Int32)  : RdI l G yX0_isMillShort cX0_isMillShort 2 (some .boolean) 2 [.ref c0, .int x] [(c0, .inr (0, [.ref o0, .int nv, .ref aCa, .ref aTk, .ref aGr, .ref aGo, .ref aWe, .ref aDr, .ref aEa, .int br, .int du, .int mi, .int am, .int mb])), (o0, .inr (2, [.ref oFa, .ref oWi, .ref oPa, .ref oQu, .ref oSh, .int (nI hk), .int fl, .int ai, .int rn, .int rf, .int rt]))] (s_short am (s_ra fl rn rf rt x)) := by
  refine RdI.of (own := RX0) (by decide) rfl (Nat.le_of_ble_eq_true rfl) (fun p e s m below meth c => ?_)
  refine v_aload_n dX0_isMillShort_0 rfl 0 rfl ?_
  refine v_get fX0_75 dX0_isMillShort_1 0 rfl rfl ?_
  refine v_aload_n dX0_isMillShort_4 rfl 0 rfl ?_
  refine v_get fX0_33 dX0_isMillShort_5 0 rfl rfl ?_
  refine v_iload_n dX0_isMillShort_8 rfl 1 rfl ?_
  refine v_vRd (As := [.int x]) (rest := [.int am]) (c_X2_rightAt l G o0 oFa oWi oPa oQu oSh hk fl ai rn rf rt x ) YX2_rightAt mX0_88 dX0_isMillShort_9 ciX2 1 rfl [1] rfl rfl rfl (Nat.le_of_ble_eq_true rfl) (by decide) (by decide) ?_
  refine v_icmp_ge (tgt := 19) dX0_isMillShort_12 (by decide) (fun h12 => ?_) (fun h12 => ?_)
  · skip
    refine v_iconst (v := 0) dX0_isMillShort_19 (by decide) ?_
    exact v_zretR dX0_isMillShort_20 (by simp only [s_short, if_pos h12]) rfl
  · skip
    refine v_iconst (v := 1) dX0_isMillShort_15 (by decide) ?_
    refine v_goto (tgt := 20) dX0_isMillShort_16 (by decide) ?_
    exact v_zretR dX0_isMillShort_20 (by simp only [s_short, if_neg h12]) rfl

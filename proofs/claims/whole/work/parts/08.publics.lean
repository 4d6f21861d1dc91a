/-! ===== the ledger, the judgement of an hour, the public calls that need no stream without a hatch ===== -/
section VX3
variable {p : Program} {l : Launch} {e : Env} {R : Room} {s : State} {m : MethodId} {args : Array Value} {below : List Frame} {meth : Method} {c : Code} {Q : State → Prop} {G : v_Cfg} {I : va_W → Heap → List Loc → Prop} {cc : ByteArray} {own : String} {nL : Nat} {ret : Option FieldType} {ws : va_W} {k n : Nat} {lv : List (Nat × Value)} {pc : Nat} {st st' : List Value}
theorem v_stk (h : st = st') (kk : V p l e R s m args below meth c Q G I cc own nL ret ws k n lv pc st') : V p l e R s m args below meth c Q G I cc own nL ret ws k n lv pc st := h ▸ kk
end VX3
theorem v_s1 {α : Type} (f : α → List Value) {a b : α} (h : a = b) : f a = f b := by rw [h]
theorem v_s2 {α β : Type} (f : α → β → List Value) {a a' : α} {b b' : β} (h : a = a') (h2 : b = b') : f a b = f a' b' := by rw [h, h2]
def updN (f : Nat → Nat) (k v : Nat) : Nat → Nat := fun j => if j = k then v else f j
theorem pN_upd (fn : Nat → Nat) (k v : Nat) : upd (pN fn) k (nI v) = pN (updN fn k v) := by
  funext j; unfold upd pN updN; split <;> rfl
def s_fu (de : Nat) : Int32 := if de < 90 then 0 else 1
def s_sel {α : Type} (a d : Int32) (x y z : α) : α := if a = 0 then x else if d = 0 then z else y
def s_sel2 {α : Type} (a b d : Int32) (x y z : α) : α := if a = 0 then x else if b = 0 then x else if d = 0 then z else y
def s_selR {α : Type} (a b c f t d : Int32) (x y z : α) : α := if a = 0 then x else if b = 0 then x else if c = 0 then x else if f < t then (if d = 0 then z else y) else x
def s_selH {α : Type} (a b c : Int32) (hk : Nat) (d : Int32) (x y z : α) : α := if a = 0 then x else if b = 0 then x else if c = 0 then x else if 6 ≤ hk then y else if d = 0 then z else y
def s_ent (bn : Nat) (f : Nat → Int32) (a : Int32) : Nat → Int32 := if bn < 60 then upd f bn a else f
theorem s_in_ix {x lo hi : Int32} {a b : Nat} (h : ¬ s_in x lo hi = 0) (hl : lo = nI a) (hh : hi = nI b) (hb : b < 2 ^ 31) (hab : a < 2 ^ 31) : x = nI x.toNatClampNeg ∧ a ≤ x.toNatClampNeg ∧ x.toNatClampNeg ≤ b := by
  unfold s_in at h
  split at h
  · exact absurd rfl h
  · rename_i h0
    split at h
    · exact absurd rfl h
    · rename_i h1
      subst hl; subst hh
      have e0 : (0 : Int32) = nI 0 := rfl
      have hx0 : ¬ x < 0 := fun q => h0 (by
        rw [Int32.lt_iff_toInt_lt] at q ⊢
        rw [nI_toInt hab]
        rw [Int32.toInt_zero] at q
        omega)
      obtain ⟨j, hj, rfl⟩ := nI_of hx0
      rw [nI_clamp hj]
      rw [nI_ltI hj hab] at h0
      rw [nI_ltI hb hj] at h1
      exact ⟨rfl, by omega, by omega⟩
theorem s_isp_ix {x y pah : Int32} {k n : Nat} (hk : k ≤ 6) (hn : n ≤ 4) (hp : pah = nI n) (h : ¬ s_isp x y (nI k) pah = 0) : (x = nI x.toNatClampNeg ∧ x.toNatClampNeg < k) ∧ y = nI y.toNatClampNeg ∧ y.toNatClampNeg < n := by
  unfold s_isp at h
  split at h
  · exact absurd rfl h
  · rename_i h0
    split at h
    · exact absurd rfl h
    · rename_i h1
      split at h
      · exact absurd rfl h
      · rename_i h2
        refine ⟨s_ish_ix hk h0, ?_⟩
        obtain ⟨j, hj, rfl⟩ := nI_of h1
        rw [nI_clamp hj]
        refine ⟨rfl, ?_⟩
        rcases Nat.lt_or_ge j n with q | q
        · exact q
        · exact absurd (by rw [hp]; exact nI_le q hj) h2
abbrev JS : Type := (Nat → Int32) × (Nat → Int32) × (Nat → Int32) × (Nat → Int32) × Nat × Int32 × Int32
def J_lh (x : JS) : Nat → Int32 := x.1
def J_ls (x : JS) : Nat → Int32 := x.2.1
def J_lw (x : JS) : Nat → Int32 := x.2.2.1
def J_lt (x : JS) : Nat → Int32 := x.2.2.2.1
def J_bn (x : JS) : Nat := x.2.2.2.2.1
def J_ta (x : JS) : Int32 := x.2.2.2.2.2.1
def J_br (x : JS) : Int32 := x.2.2.2.2.2.2
def s_jst (tk : Nat → Int32) (fn : Nat → Nat) (fl ai hr : Int32) (h : Nat) (J : JS) : JS :=
  if tk h ≤ 0 then J else if s_out (nI (fn h)) fl ai hr = 0 then (J_lh J, J_ls J, J_lw J, J_lt J, J_bn J, J_ta J ||| (1 <<< (nI h &&& 31)), J_br J)
  else (s_ent (J_bn J) (J_lh J) hr, s_ent (J_bn J) (J_ls J) 1, s_ent (J_bn J) (J_lw J) (nI h), upd (J_lt J) (fn h) (J_lt J (fn h) + 1), J_bn J + 1, J_ta J ||| (1 <<< (nI h &&& 31)), J_br J ||| (1 <<< (nI h &&& 31)))
def s_jrun (tk : Nat → Int32) (fn : Nat → Nat) (fl ai hr : Int32) : Nat → JS → JS
  | 0, J => J
  | h + 1, J => s_jst tk fn fl ai hr h (s_jrun tk fn fl ai hr h J)
theorem s_jrun_bn (tk : Nat → Int32) (fn : Nat → Nat) (fl ai hr : Int32) (h : Nat) (J : JS) : J_bn (s_jrun tk fn fl ai hr h J) ≤ J_bn J + h := by
  induction h with
  | zero => exact Nat.le_refl _
  | succ h ih =>
    show J_bn (s_jst tk fn fl ai hr h (s_jrun tk fn fl ai hr h J)) ≤ _
    unfold s_jst
    split
    · omega
    · split
      · show J_bn (s_jrun tk fn fl ai hr h J) ≤ _
        omega
      · show J_bn (s_jrun tk fn fl ai hr h J) + 1 ≤ _
        omega
def s_who (J : JS) : Int32 := if J_br J = 0 then J_ta J else J_br J
/-- the mill's right behind the turns: short 0 is 'not broken' -/
def s_mill (short hr : Int32) (J : JS) : JS := if short = 0 then J else (s_ent (J_bn J) (J_lh J) hr, s_ent (J_bn J) (J_ls J) 2, s_ent (J_bn J) (J_lw J) (s_who J), J_lt J, J_bn J + 1, J_ta J, J_br J)
def s_told (ish what fa wi pa qu ca mo tk : Int32) : Int32 := if ish = 0 then -1 else if what = 0 then fa else if what = 1 then wi else if what = 2 then pa else if what = 3 then qu else if what = 4 then ca / 100 else if what = 5 then ca else if what = 6 then mo else if what = 7 then tk else -1
def s_pane (isp what gr go we dr sh ea : Int32) : Int32 := if isp = 0 then -1 else if what = 0 then gr else if what = 1 then go else if what = 2 then we else if what = 3 then dr else if what = 4 then sh else if what = 5 then ea else -1
def s_strm (what fl ai br du mi am mb : Int32) : Int32 := if what = 0 then fl else if what = 1 then ai else if what = 2 then br else if what = 3 then du else if what = 4 then mi else if what = 5 then am else if what = 6 then mb else -100
def s_brk (i what inw al none a b c : Int32) (kn : Int32) : Int32 := if i = -1 then (if what = 0 then al else if i < 0 then -1 else if inw = 0 then -1 else if i < kn then (if what = 0 then a else if what = 1 then b else c) else none) else if i < 0 then -1 else if inw = 0 then -1 else if i < kn then (if what = 0 then a else if what = 1 then b else c) else none
def s_frm (inf what a b c d : Int32) : Int32 := if inf = 0 then -1 else if what = 0 then a else if what = 1 then b else if what = 2 then c else if what = 3 then d else -1
def s_cnt (what a b c : Int32) : Int32 := if what = 0 then a else if what = 1 then b else if what = 2 then c else -1

set_option maxRecDepth 100000 in
set_option maxHeartbeats 4000000 in
theorem c_X2_addHatch (l : Launch) (G : v_Cfg) (o0 : Nat) (oFa : Nat) (oWi : Nat) (oPa : Nat) (oQu : Nat) (oSh : Nat) (hk : Nat) (fl : Int32) (ai : Int32) (rn : Int32) (rf : Int32) (rt : Int32) (wi : Nat → Int32) (fn : Nat → Nat) (pn : Nat → Nat) (f : Nat) (w : Int32) (q : Nat) (hk5 : hk < 6) : MuI l G yX2_addHatch cX2_addHatch 5 (some .int) 0 [.ref o0, .int (nI f), .int w, .int (nI q)] [(o0, .inr (2, [.ref oFa, .ref oWi, .ref oPa, .ref oQu, .ref oSh, .int (nI hk), .int fl, .int ai, .int rn, .int rf, .int rt])), (oFa, .inl (G.2.1, 6, .inl (pN fn))), (oWi, .inl (G.2.1, 6, .inl wi)), (oPa, .inl (G.2.1, 6, .inl (pN pn)))] [(o0, .inr (2, [.ref oFa, .ref oWi, .ref oPa, .ref oQu, .ref oSh, .int (nI (hk + 1)), .int fl, .int ai, .int rn, .int rf, .int rt])), (oFa, .inl (G.2.1, 6, .inl (pN (updN fn hk f)))), (oWi, .inl (G.2.1, 6, .inl (upd wi hk w))), (oPa, .inl (G.2.1, 6, .inl (pN (updN pn hk q))))] (nI hk) := by
  refine MuI.of (own := RX2) (by decide) rfl (Nat.le_of_ble_eq_true rfl) (fun p e s m below meth c => ?_)
  refine v_aload_n dX2_addHatch_0 rfl 0 rfl ?_
  refine v_get fX2_34 dX2_addHatch_1 0 rfl rfl ?_
  refine v_istore (lv' := [(4, .int (nI hk)), (0, .ref o0), (1, .int (nI f)), (2, .int w), (3, .int (nI q))]) dX2_addHatch_4 (by decide) rfl ?_
  refine v_aload_n dX2_addHatch_6 rfl 1 rfl ?_
  refine v_get fX2_9 dX2_addHatch_7 0 rfl rfl ?_
  refine v_iload dX2_addHatch_10 0 rfl ?_
  refine v_iload_n dX2_addHatch_12 rfl 2 rfl ?_
  refine v_iast (ws' := [(o0, .inr (2, [.ref oFa, .ref oWi, .ref oPa, .ref oQu, .ref oSh, .int (nI hk), .int fl, .int ai, .int rn, .int rf, .int rt])), (oFa, .inl (G.2.1, 6, .inl (upd (pN fn) hk (nI f)))), (oWi, .inl (G.2.1, 6, .inl wi)), (oPa, .inl (G.2.1, 6, .inl (pN pn)))]) dX2_addHatch_13 1 rfl hk rfl (by omega) (by decide) rfl ?_
  refine v_aload_n dX2_addHatch_14 rfl 1 rfl ?_
  refine v_get fX2_15 dX2_addHatch_15 0 rfl rfl ?_
  refine v_iload dX2_addHatch_18 0 rfl ?_
  refine v_iload_n dX2_addHatch_20 rfl 3 rfl ?_
  refine v_iast (ws' := [(o0, .inr (2, [.ref oFa, .ref oWi, .ref oPa, .ref oQu, .ref oSh, .int (nI hk), .int fl, .int ai, .int rn, .int rf, .int rt])), (oFa, .inl (G.2.1, 6, .inl (upd (pN fn) hk (nI f)))), (oWi, .inl (G.2.1, 6, .inl (upd wi hk w))), (oPa, .inl (G.2.1, 6, .inl (pN pn)))]) dX2_addHatch_21 2 rfl hk rfl (by omega) (by decide) rfl ?_
  refine v_aload_n dX2_addHatch_22 rfl 1 rfl ?_
  refine v_get fX2_18 dX2_addHatch_23 0 rfl rfl ?_
  refine v_iload dX2_addHatch_26 0 rfl ?_
  refine v_iload_n dX2_addHatch_28 rfl 4 rfl ?_
  refine v_iast (ws' := [(o0, .inr (2, [.ref oFa, .ref oWi, .ref oPa, .ref oQu, .ref oSh, .int (nI hk), .int fl, .int ai, .int rn, .int rf, .int rt])), (oFa, .inl (G.2.1, 6, .inl (upd (pN fn) hk (nI f)))), (oWi, .inl (G.2.1, 6, .inl (upd wi hk w))), (oPa, .inl (G.2.1, 6, .inl (upd (pN pn) hk (nI q))))]) dX2_addHatch_29 3 rfl hk rfl (by omega) (by decide) rfl ?_
  refine v_aload_n dX2_addHatch_30 rfl 1 rfl ?_
  refine v_dup dX2_addHatch_31 rfl ?_
  refine v_get fX2_34 dX2_addHatch_32 0 rfl rfl ?_
  refine v_iconst (v := 1) dX2_addHatch_35 (by decide) ?_
  refine v_iadd dX2_addHatch_36 ?_
  refine v_eqi (nI (hk + 1)) (nI_1 hk) ?_
  refine v_puti (ws' := [(o0, .inr (2, [.ref oFa, .ref oWi, .ref oPa, .ref oQu, .ref oSh, .int (nI (hk + 1)), .int fl, .int ai, .int rn, .int rf, .int rt])), (oFa, .inl (G.2.1, 6, .inl (upd (pN fn) hk (nI f)))), (oWi, .inl (G.2.1, 6, .inl (upd wi hk w))), (oPa, .inl (G.2.1, 6, .inl (upd (pN pn) hk (nI q))))]) pX2_34 dX2_addHatch_37 0 rfl (Nat.le_of_ble_eq_true rfl) rfl ?_
  refine v_iload dX2_addHatch_40 0 rfl ?_
  exact v_iretM dX2_addHatch_42 rfl (v_w2 (fun (z0 : Nat → Int32) (z1 : Nat → Int32) => ([(o0, .inr (2, [.ref oFa, .ref oWi, .ref oPa, .ref oQu, .ref oSh, .int (nI (hk + 1)), .int fl, .int ai, .int rn, .int rf, .int rt])), (oFa, .inl (G.2.1, 6, .inl z0)), (oWi, .inl (G.2.1, 6, .inl (upd wi hk w))), (oPa, .inl (G.2.1, 6, .inl z1))] : va_W)) (pN_upd _ _ _) (pN_upd _ _ _))

set_option maxRecDepth 100000 in
set_option maxHeartbeats 4000000 in
theorem c_X1_enter (l : Launch) (G : v_Cfg) (g0 : Nat) (lH : Nat) (lS : Nat) (lW : Nat) (lT : Nat) (bn : Nat) (lh : Nat → Int32) (ls : Nat → Int32) (lw : Nat → Int32) (a : Int32) (b : Int32) (d : Int32) (hbn : bn < 1000000) : MuV l G yX1_enter cX1_enter 4 none 0 [.ref g0, .int a, .int b, .int d] [(g0, .inr (1, [.ref lH, .ref lS, .ref lW, .ref lT, .int (nI (min bn 60)), .int (nI bn)])), (lH, .inl (G.2.1, 60, .inl lh)), (lS, .inl (G.2.1, 60, .inl ls)), (lW, .inl (G.2.1, 60, .inl lw))] [(g0, .inr (1, [.ref lH, .ref lS, .ref lW, .ref lT, .int (nI (min (bn + 1) 60)), .int (nI (bn + 1))])), (lH, .inl (G.2.1, 60, .inl (s_ent bn lh a))), (lS, .inl (G.2.1, 60, .inl (s_ent bn ls b))), (lW, .inl (G.2.1, 60, .inl (s_ent bn lw d)))] := by
  refine MuV.of (own := RX1) (by decide) rfl (Nat.le_of_ble_eq_true rfl) (fun p e s m below meth c => ?_)
  refine v_aload_n dX1_enter_0 rfl 0 rfl ?_
  refine v_dup dX1_enter_1 rfl ?_
  refine v_get fX1_28 dX1_enter_2 0 rfl rfl ?_
  refine v_iconst (v := 1) dX1_enter_5 (by decide) ?_
  refine v_iadd dX1_enter_6 ?_
  refine v_eqi (nI (bn + 1)) (nI_1 bn) ?_
  refine v_puti (ws' := [(g0, .inr (1, [.ref lH, .ref lS, .ref lW, .ref lT, .int (nI (min bn 60)), .int (nI (bn + 1))])), (lH, .inl (G.2.1, 60, .inl lh)), (lS, .inl (G.2.1, 60, .inl ls)), (lW, .inl (G.2.1, 60, .inl lw))]) pX1_28 dX1_enter_7 0 rfl (Nat.le_of_ble_eq_true rfl) rfl ?_
  refine v_aload_n dX1_enter_10 rfl 0 rfl ?_
  refine v_get fX1_32 dX1_enter_11 0 rfl rfl ?_
  refine v_bipush (v := nI 60) dX1_enter_14 (by decide) ?_
  by_cases n16 : bn < 60
  · refine v_icmp_ge (tgt := 59) dX1_enter_16 (by decide) (fun h16 => absurd h16 (nI_ge (by omega) (by omega))) (fun h16 => ?_)
    refine v_aload_n dX1_enter_19 rfl 0 rfl ?_
    refine v_get fX1_9 dX1_enter_20 0 rfl rfl ?_
    refine v_aload_n dX1_enter_23 rfl 0 rfl ?_
    refine v_get fX1_32 dX1_enter_24 0 rfl rfl ?_
    refine v_iload_n dX1_enter_27 rfl 1 rfl ?_
    refine v_iast (ws' := [(g0, .inr (1, [.ref lH, .ref lS, .ref lW, .ref lT, .int (nI (min bn 60)), .int (nI (bn + 1))])), (lH, .inl (G.2.1, 60, .inl (upd lh bn a))), (lS, .inl (G.2.1, 60, .inl ls)), (lW, .inl (G.2.1, 60, .inl lw))]) dX1_enter_28 1 rfl bn (by rw [Nat.min_eq_left (by omega)]) (by omega) (by decide) rfl ?_
    refine v_aload_n dX1_enter_29 rfl 0 rfl ?_
    refine v_get fX1_15 dX1_enter_30 0 rfl rfl ?_
    refine v_aload_n dX1_enter_33 rfl 0 rfl ?_
    refine v_get fX1_32 dX1_enter_34 0 rfl rfl ?_
    refine v_iload_n dX1_enter_37 rfl 2 rfl ?_
    refine v_iast (ws' := [(g0, .inr (1, [.ref lH, .ref lS, .ref lW, .ref lT, .int (nI (min bn 60)), .int (nI (bn + 1))])), (lH, .inl (G.2.1, 60, .inl (upd lh bn a))), (lS, .inl (G.2.1, 60, .inl (upd ls bn b))), (lW, .inl (G.2.1, 60, .inl lw))]) dX1_enter_38 2 rfl bn (by rw [Nat.min_eq_left (by omega)]) (by omega) (by decide) rfl ?_
    refine v_aload_n dX1_enter_39 rfl 0 rfl ?_
    refine v_get fX1_18 dX1_enter_40 0 rfl rfl ?_
    refine v_aload_n dX1_enter_43 rfl 0 rfl ?_
    refine v_get fX1_32 dX1_enter_44 0 rfl rfl ?_
    refine v_iload_n dX1_enter_47 rfl 3 rfl ?_
    refine v_iast (ws' := [(g0, .inr (1, [.ref lH, .ref lS, .ref lW, .ref lT, .int (nI (min bn 60)), .int (nI (bn + 1))])), (lH, .inl (G.2.1, 60, .inl (upd lh bn a))), (lS, .inl (G.2.1, 60, .inl (upd ls bn b))), (lW, .inl (G.2.1, 60, .inl (upd lw bn d)))]) dX1_enter_48 3 rfl bn (by rw [Nat.min_eq_left (by omega)]) (by omega) (by decide) rfl ?_
    refine v_aload_n dX1_enter_49 rfl 0 rfl ?_
    refine v_dup dX1_enter_50 rfl ?_
    refine v_get fX1_32 dX1_enter_51 0 rfl rfl ?_
    refine v_iconst (v := 1) dX1_enter_54 (by decide) ?_
    refine v_iadd dX1_enter_55 ?_
    refine v_eqi (nI (min (bn + 1) 60)) (by rw [nI_1]; exact congrArg nI (by omega)) ?_
    refine v_puti (ws' := [(g0, .inr (1, [.ref lH, .ref lS, .ref lW, .ref lT, .int (nI (min (bn + 1) 60)), .int (nI (bn + 1))])), (lH, .inl (G.2.1, 60, .inl (upd lh bn a))), (lS, .inl (G.2.1, 60, .inl (upd ls bn b))), (lW, .inl (G.2.1, 60, .inl (upd lw bn d)))]) pX1_32 dX1_enter_56 0 rfl (Nat.le_of_ble_eq_true rfl) rfl ?_
    exact v_vretM dX1_enter_59 (v_w3 (fun (z0 : Nat → Int32) (z1 : Nat → Int32) (z2 : Nat → Int32) => ([(g0, .inr (1, [.ref lH, .ref lS, .ref lW, .ref lT, .int (nI (min (bn + 1) 60)), .int (nI (bn + 1))])), (lH, .inl (G.2.1, 60, .inl z0)), (lS, .inl (G.2.1, 60, .inl z1)), (lW, .inl (G.2.1, 60, .inl z2))] : va_W)) (by simp only [s_ent, if_pos n16, u_id] <;> rfl) (by simp only [s_ent, if_pos n16, u_id] <;> rfl) (by simp only [s_ent, if_pos n16, u_id] <;> rfl))
  · refine v_icmp_ge (tgt := 59) dX1_enter_16 (by decide) (fun h16 => ?_) (fun h16 => absurd (nI_le (by omega) (by omega)) h16)
    exact v_vretM dX1_enter_59 (v_w4 (fun (z0 : Int32) (z1 : Nat → Int32) (z2 : Nat → Int32) (z3 : Nat → Int32) => ([(g0, .inr (1, [.ref lH, .ref lS, .ref lW, .ref lT, .int z0, .int (nI (bn + 1))])), (lH, .inl (G.2.1, 60, .inl z1)), (lS, .inl (G.2.1, 60, .inl z2)), (lW, .inl (G.2.1, 60, .inl z3))] : va_W)) (congrArg nI (by omega)) (by simp only [s_ent, if_neg n16, u_id] <;> rfl) (by simp only [s_ent, if_neg n16, u_id] <;> rfl) (by simp only [s_ent, if_neg n16, u_id] <;> rfl))

set_option maxRecDepth 100000 in
set_option maxHeartbeats 4000000 in
theorem c_X1_enterTurn (l : Launch) (G : v_Cfg) (g0 : Nat) (lH : Nat) (lS : Nat) (lW : Nat) (lT : Nat) (bn : Nat) (lh : Nat → Int32) (ls : Nat → Int32) (lw : Nat → Int32) (lt : Nat → Int32) (a : Int32) (b : Int32) (f : Nat) (hbn : bn < 1000000) (hf4 : f < 4) : MuV l G yX1_enterTurn cX1_enterTurn 4 none 1 [.ref g0, .int a, .int b, .int (nI f)] [(g0, .inr (1, [.ref lH, .ref lS, .ref lW, .ref lT, .int (nI (min bn 60)), .int (nI bn)])), (lH, .inl (G.2.1, 60, .inl lh)), (lS, .inl (G.2.1, 60, .inl ls)), (lW, .inl (G.2.1, 60, .inl lw)), (lT, .inl (G.2.1, 4, .inl lt))] [(g0, .inr (1, [.ref lH, .ref lS, .ref lW, .ref lT, .int (nI (min (bn + 1) 60)), .int (nI (bn + 1))])), (lH, .inl (G.2.1, 60, .inl (s_ent bn lh a))), (lS, .inl (G.2.1, 60, .inl (s_ent bn ls 1))), (lW, .inl (G.2.1, 60, .inl (s_ent bn lw b))), (lT, .inl (G.2.1, 4, .inl (upd lt f (lt f + 1))))] := by
  refine MuV.of (own := RX1) (by decide) rfl (Nat.le_of_ble_eq_true rfl) (fun p e s m below meth c => ?_)
  refine v_aload_n dX1_enterTurn_0 rfl 0 rfl ?_
  refine v_get fX1_21 dX1_enterTurn_1 0 rfl rfl ?_
  refine v_iload_n dX1_enterTurn_4 rfl 3 rfl ?_
  refine v_dup2 dX1_enterTurn_5 rfl rfl ?_
  refine v_iald dX1_enterTurn_6 4 rfl f rfl (by omega) (by decide) ?_
  refine v_iconst (v := 1) dX1_enterTurn_7 (by decide) ?_
  refine v_iadd dX1_enterTurn_8 ?_
  refine v_iast (ws' := [(g0, .inr (1, [.ref lH, .ref lS, .ref lW, .ref lT, .int (nI (min bn 60)), .int (nI bn)])), (lH, .inl (G.2.1, 60, .inl lh)), (lS, .inl (G.2.1, 60, .inl ls)), (lW, .inl (G.2.1, 60, .inl lw)), (lT, .inl (G.2.1, 4, .inl (upd lt f ((lt f) + 1))))]) dX1_enterTurn_9 4 rfl f rfl (by omega) (by decide) rfl ?_
  refine v_aload_n dX1_enterTurn_10 rfl 0 rfl ?_
  refine v_iload_n dX1_enterTurn_11 rfl 1 rfl ?_
  refine v_iconst (v := 1) dX1_enterTurn_12 (by decide) ?_
  refine v_iload_n dX1_enterTurn_13 rfl 2 rfl ?_
  refine v_vMv (ws' := [(g0, .inr (1, [.ref lH, .ref lS, .ref lW, .ref lT, .int (nI (min (bn + 1) 60)), .int (nI (bn + 1))])), (lH, .inl (G.2.1, 60, .inl (s_ent bn lh a))), (lS, .inl (G.2.1, 60, .inl (s_ent bn ls 1))), (lW, .inl (G.2.1, 60, .inl (s_ent bn lw b))), (lT, .inl (G.2.1, 4, .inl (upd lt f ((lt f) + 1))))]) (As := [.int a, .int 1, .int b]) (rest := []) (c_X1_enter l G g0 lH lS lW lT bn lh ls lw a 1 b (by omega)) YX1_enter mX1_24 dX1_enterTurn_14 ciX1 0 rfl [0, 1, 2, 3] (by decide) rfl rfl rfl rfl rfl rfl (Nat.le_of_ble_eq_true rfl) (by decide) (by decide) ?_
  exact v_vretM dX1_enterTurn_17 rfl

set_option maxRecDepth 100000 in
set_option maxHeartbeats 4000000 in
theorem c_X3_hasAllDeeds (l : Launch) (G : v_Cfg) (x0 : Nat) (o0 : Nat) (g0 : Nat) (c0 : Nat) (sA : Nat) (ho : Nat) (de : Nat) (hde : de ≤ 90) : RdI l G yX3_hasAllDeeds cX3_hasAllDeeds 1 (some .boolean) 0 [.ref x0] [(x0, .inr (3, [.ref o0, .ref g0, .ref c0, .ref sA, .int (nI ho), .int (nI de)]))] (s_fu de) := by
  refine RdI.of (own := RX3) (by decide) rfl (Nat.le_of_ble_eq_true rfl) (fun p e s m below meth c => ?_)
  refine v_aload_n dX3_hasAllDeeds_0 rfl 0 rfl ?_
  refine v_get fX3_48 dX3_hasAllDeeds_1 0 rfl rfl ?_
  refine v_bipush (v := nI 90) dX3_hasAllDeeds_4 (by decide) ?_
  by_cases n6 : de < 90
  · refine v_icmp_lt (tgt := 13) dX3_hasAllDeeds_6 (by decide) (fun h6 => ?_) (fun h6 => absurd (nI_lt n6 (by omega)) h6)
    refine v_iconst (v := 0) dX3_hasAllDeeds_13 (by decide) ?_
    exact v_zretR dX3_hasAllDeeds_14 (by simp only [s_fu, if_pos n6] <;> rfl) rfl
  · refine v_icmp_lt (tgt := 13) dX3_hasAllDeeds_6 (by decide) (fun h6 => absurd h6 (nI_nlt (by omega) (by omega))) (fun h6 => ?_)
    refine v_iconst (v := 1) dX3_hasAllDeeds_9 (by decide) ?_
    refine v_goto (tgt := 14) dX3_hasAllDeeds_10 (by decide) ?_
    exact v_zretR dX3_hasAllDeeds_14 (by simp only [s_fu, if_neg n6] <;> rfl) rfl

set_option maxRecDepth 100000 in
set_option maxHeartbeats 4000000 in
theorem c_X3_flow (l : Launch) (G : v_Cfg) (x0 : Nat) (o0 : Nat) (g0 : Nat) (c0 : Nat) (sA : Nat) (ho : Nat) (de : Nat) (oFa : Nat) (oWi : Nat) (oPa : Nat) (oQu : Nat) (oSh : Nat) (hk : Nat) (fl : Int32) (ai : Int32) (rn : Int32) (rf : Int32) (rt : Int32) (x : Int32) (hde : de ≤ 90) : MuI l G yX3_flow cX3_flow 3 (some .int) 1 [.ref x0, .int x] [(x0, .inr (3, [.ref o0, .ref g0, .ref c0, .ref sA, .int (nI ho), .int (nI de)])), (o0, .inr (2, [.ref oFa, .ref oWi, .ref oPa, .ref oQu, .ref oSh, .int (nI hk), .int fl, .int ai, .int rn, .int rf, .int rt]))] [(x0, .inr (3, [.ref o0, .ref g0, .ref c0, .ref sA, .int (nI ho), .int (nI (s_sel (s_in x 0 1000) (s_fu de) de de (de + 1)))])), (o0, .inr (2, [.ref oFa, .ref oWi, .ref oPa, .ref oQu, .ref oSh, .int (nI hk), .int (s_sel (s_in x 0 1000) (s_fu de) fl fl x), .int ai, .int rn, .int rf, .int rt]))] (s_sel (s_in x 0 1000) (s_fu de) ((-1)) ((-3)) fl) := by
  refine MuI.of (own := RX3) (by decide) rfl (Nat.le_of_ble_eq_true rfl) (fun p e s m below meth c => ?_)
  refine v_iload_n dX3_flow_0 rfl 1 rfl ?_
  refine v_iconst (v := 0) dX3_flow_1 (by decide) ?_
  refine v_sipush (v := 1000) dX3_flow_2 (by decide) ?_
  refine v_sRd (As := [.int x, .int 0, .int 1000]) (rest := []) (c_X3_isWithin l G x 0 1000 ) YX3_isWithin mX3_36 dX3_flow_5 [] rfl rfl rfl (Nat.le_of_ble_eq_true rfl) (by decide) (by decide) ?_
  refine v_if_ne (tgt := 13) dX3_flow_8 (by decide) (fun h8 => ?_) (fun h8 => ?_)
  · skip
    refine v_aload_n dX3_flow_13 rfl 0 rfl ?_
    refine v_vRd (As := []) (rest := []) (c_X3_hasAllDeeds l G x0 o0 g0 c0 sA ho de (by omega)) YX3_hasAllDeeds mX3_44 dX3_flow_14 ciX3 0 rfl [0] rfl rfl rfl (Nat.le_of_ble_eq_true rfl) (by decide) (by decide) ?_
    refine v_if_eq (tgt := 23) dX3_flow_17 (by decide) (fun h17 => ?_) (fun h17 => ?_)
    · skip
      refine v_aload_n dX3_flow_23 rfl 0 rfl ?_
      refine v_dup dX3_flow_24 rfl ?_
      refine v_get fX3_48 dX3_flow_25 0 rfl rfl ?_
      refine v_iconst (v := 1) dX3_flow_28 (by decide) ?_
      refine v_iadd dX3_flow_29 ?_
      refine v_eqi (nI (de + 1)) (nI_1 de) ?_
      refine v_puti (ws' := [(x0, .inr (3, [.ref o0, .ref g0, .ref c0, .ref sA, .int (nI ho), .int (nI (de + 1))])), (o0, .inr (2, [.ref oFa, .ref oWi, .ref oPa, .ref oQu, .ref oSh, .int (nI hk), .int fl, .int ai, .int rn, .int rf, .int rt]))]) pX3_48 dX3_flow_30 0 rfl (Nat.le_of_ble_eq_true rfl) rfl ?_
      refine v_aload_n dX3_flow_33 rfl 0 rfl ?_
      refine v_get fX3_10 dX3_flow_34 0 rfl rfl ?_
      refine v_get fX3_63 dX3_flow_37 1 rfl rfl ?_
      refine v_istore_n (lv' := [(2, .int fl), (0, .ref x0), (1, .int x)]) dX3_flow_40 rfl (by decide) rfl ?_
      refine v_aload_n dX3_flow_41 rfl 1 rfl ?_
      refine v_get fX3_10 dX3_flow_42 0 rfl rfl ?_
      refine v_iload_n dX3_flow_45 rfl 2 rfl ?_
      refine v_puti (ws' := [(x0, .inr (3, [.ref o0, .ref g0, .ref c0, .ref sA, .int (nI ho), .int (nI (de + 1))])), (o0, .inr (2, [.ref oFa, .ref oWi, .ref oPa, .ref oQu, .ref oSh, .int (nI hk), .int x, .int ai, .int rn, .int rf, .int rt]))]) pX3_63 dX3_flow_46 1 rfl (Nat.le_of_ble_eq_true rfl) rfl ?_
      refine v_iload_n dX3_flow_49 rfl 0 rfl ?_
      exact v_iretM dX3_flow_50 (by simp only [s_sel, if_neg h8, if_pos h17] <;> rfl) (v_w2 (fun (z0 : Int32) (z1 : Int32) => ([(x0, .inr (3, [.ref o0, .ref g0, .ref c0, .ref sA, .int (nI ho), .int z0])), (o0, .inr (2, [.ref oFa, .ref oWi, .ref oPa, .ref oQu, .ref oSh, .int (nI hk), .int z1, .int ai, .int rn, .int rf, .int rt]))] : va_W)) (by simp only [s_sel, if_neg h8, if_pos h17, u_id] <;> rfl) (by simp only [s_sel, if_neg h8, if_pos h17, u_id] <;> rfl))
    · skip
      refine v_bipush (v := (-3)) dX3_flow_20 (by decide) ?_
      exact v_iretM dX3_flow_22 (by simp only [s_sel, if_neg h8, if_neg h17] <;> rfl) (v_w2 (fun (z0 : Int32) (z1 : Int32) => ([(x0, .inr (3, [.ref o0, .ref g0, .ref c0, .ref sA, .int (nI ho), .int z0])), (o0, .inr (2, [.ref oFa, .ref oWi, .ref oPa, .ref oQu, .ref oSh, .int (nI hk), .int z1, .int ai, .int rn, .int rf, .int rt]))] : va_W)) (by simp only [s_sel, if_neg h8, if_neg h17, u_id] <;> rfl) (by simp only [s_sel, if_neg h8, if_neg h17, u_id] <;> rfl))
  · skip
    refine v_iconst (v := (-1)) dX3_flow_11 (by decide) ?_
    exact v_iretM dX3_flow_12 (by simp only [s_sel, if_pos h8] <;> rfl) (v_w2 (fun (z0 : Int32) (z1 : Int32) => ([(x0, .inr (3, [.ref o0, .ref g0, .ref c0, .ref sA, .int (nI ho), .int z0])), (o0, .inr (2, [.ref oFa, .ref oWi, .ref oPa, .ref oQu, .ref oSh, .int (nI hk), .int z1, .int ai, .int rn, .int rf, .int rt]))] : va_W)) (by simp only [s_sel, if_pos h8, u_id] <;> rfl) (by simp only [s_sel, if_pos h8, u_id] <;> rfl))

set_option maxRecDepth 100000 in
set_option maxHeartbeats 4000000 in
theorem c_X3_air (l : Launch) (G : v_Cfg) (x0 : Nat) (o0 : Nat) (g0 : Nat) (c0 : Nat) (sA : Nat) (ho : Nat) (de : Nat) (oFa : Nat) (oWi : Nat) (oPa : Nat) (oQu : Nat) (oSh : Nat) (hk : Nat) (fl : Int32) (ai : Int32) (rn : Int32) (rf : Int32) (rt : Int32) (x : Int32) (hde : de ≤ 90) : MuI l G yX3_air cX3_air 3 (some .int) 1 [.ref x0, .int x] [(x0, .inr (3, [.ref o0, .ref g0, .ref c0, .ref sA, .int (nI ho), .int (nI de)])), (o0, .inr (2, [.ref oFa, .ref oWi, .ref oPa, .ref oQu, .ref oSh, .int (nI hk), .int fl, .int ai, .int rn, .int rf, .int rt]))] [(x0, .inr (3, [.ref o0, .ref g0, .ref c0, .ref sA, .int (nI ho), .int (nI (s_sel (s_in x (-20) 30) (s_fu de) de de (de + 1)))])), (o0, .inr (2, [.ref oFa, .ref oWi, .ref oPa, .ref oQu, .ref oSh, .int (nI hk), .int fl, .int (s_sel (s_in x (-20) 30) (s_fu de) ai ai x), .int rn, .int rf, .int rt]))] (s_sel (s_in x (-20) 30) (s_fu de) ((-100)) ((-101)) ai) := by
  refine MuI.of (own := RX3) (by decide) rfl (Nat.le_of_ble_eq_true rfl) (fun p e s m below meth c => ?_)
  refine v_iload_n dX3_air_0 rfl 1 rfl ?_
  refine v_bipush (v := (-20)) dX3_air_1 (by decide) ?_
  refine v_bipush (v := 30) dX3_air_3 (by decide) ?_
  refine v_sRd (As := [.int x, .int ((-20)), .int 30]) (rest := []) (c_X3_isWithin l G x (-20) 30 ) YX3_isWithin mX3_36 dX3_air_5 [] rfl rfl rfl (Nat.le_of_ble_eq_true rfl) (by decide) (by decide) ?_
  refine v_if_ne (tgt := 14) dX3_air_8 (by decide) (fun h8 => ?_) (fun h8 => ?_)
  · skip
    refine v_aload_n dX3_air_14 rfl 0 rfl ?_
    refine v_vRd (As := []) (rest := []) (c_X3_hasAllDeeds l G x0 o0 g0 c0 sA ho de (by omega)) YX3_hasAllDeeds mX3_44 dX3_air_15 ciX3 0 rfl [0] rfl rfl rfl (Nat.le_of_ble_eq_true rfl) (by decide) (by decide) ?_
    refine v_if_eq (tgt := 24) dX3_air_18 (by decide) (fun h18 => ?_) (fun h18 => ?_)
    · skip
      refine v_aload_n dX3_air_24 rfl 0 rfl ?_
      refine v_dup dX3_air_25 rfl ?_
      refine v_get fX3_48 dX3_air_26 0 rfl rfl ?_
      refine v_iconst (v := 1) dX3_air_29 (by decide) ?_
      refine v_iadd dX3_air_30 ?_
      refine v_eqi (nI (de + 1)) (nI_1 de) ?_
      refine v_puti (ws' := [(x0, .inr (3, [.ref o0, .ref g0, .ref c0, .ref sA, .int (nI ho), .int (nI (de + 1))])), (o0, .inr (2, [.ref oFa, .ref oWi, .ref oPa, .ref oQu, .ref oSh, .int (nI hk), .int fl, .int ai, .int rn, .int rf, .int rt]))]) pX3_48 dX3_air_31 0 rfl (Nat.le_of_ble_eq_true rfl) rfl ?_
      refine v_aload_n dX3_air_34 rfl 0 rfl ?_
      refine v_get fX3_10 dX3_air_35 0 rfl rfl ?_
      refine v_get fX3_66 dX3_air_38 1 rfl rfl ?_
      refine v_istore_n (lv' := [(2, .int ai), (0, .ref x0), (1, .int x)]) dX3_air_41 rfl (by decide) rfl ?_
      refine v_aload_n dX3_air_42 rfl 1 rfl ?_
      refine v_get fX3_10 dX3_air_43 0 rfl rfl ?_
      refine v_iload_n dX3_air_46 rfl 2 rfl ?_
      refine v_puti (ws' := [(x0, .inr (3, [.ref o0, .ref g0, .ref c0, .ref sA, .int (nI ho), .int (nI (de + 1))])), (o0, .inr (2, [.ref oFa, .ref oWi, .ref oPa, .ref oQu, .ref oSh, .int (nI hk), .int fl, .int x, .int rn, .int rf, .int rt]))]) pX3_66 dX3_air_47 1 rfl (Nat.le_of_ble_eq_true rfl) rfl ?_
      refine v_iload_n dX3_air_50 rfl 0 rfl ?_
      exact v_iretM dX3_air_51 (by simp only [s_sel, if_neg h8, if_pos h18] <;> rfl) (v_w2 (fun (z0 : Int32) (z1 : Int32) => ([(x0, .inr (3, [.ref o0, .ref g0, .ref c0, .ref sA, .int (nI ho), .int z0])), (o0, .inr (2, [.ref oFa, .ref oWi, .ref oPa, .ref oQu, .ref oSh, .int (nI hk), .int fl, .int z1, .int rn, .int rf, .int rt]))] : va_W)) (by simp only [s_sel, if_neg h8, if_pos h18, u_id] <;> rfl) (by simp only [s_sel, if_neg h8, if_pos h18, u_id] <;> rfl))
    · skip
      refine v_bipush (v := (-101)) dX3_air_21 (by decide) ?_
      exact v_iretM dX3_air_23 (by simp only [s_sel, if_neg h8, if_neg h18] <;> rfl) (v_w2 (fun (z0 : Int32) (z1 : Int32) => ([(x0, .inr (3, [.ref o0, .ref g0, .ref c0, .ref sA, .int (nI ho), .int z0])), (o0, .inr (2, [.ref oFa, .ref oWi, .ref oPa, .ref oQu, .ref oSh, .int (nI hk), .int fl, .int z1, .int rn, .int rf, .int rt]))] : va_W)) (by simp only [s_sel, if_neg h8, if_neg h18, u_id] <;> rfl) (by simp only [s_sel, if_neg h8, if_neg h18, u_id] <;> rfl))
  · skip
    refine v_bipush (v := (-100)) dX3_air_11 (by decide) ?_
    exact v_iretM dX3_air_13 (by simp only [s_sel, if_pos h8] <;> rfl) (v_w2 (fun (z0 : Int32) (z1 : Int32) => ([(x0, .inr (3, [.ref o0, .ref g0, .ref c0, .ref sA, .int (nI ho), .int z0])), (o0, .inr (2, [.ref oFa, .ref oWi, .ref oPa, .ref oQu, .ref oSh, .int (nI hk), .int fl, .int z1, .int rn, .int rf, .int rt]))] : va_W)) (by simp only [s_sel, if_pos h8, u_id] <;> rfl) (by simp only [s_sel, if_pos h8, u_id] <;> rfl))

set_option maxRecDepth 100000 in
set_option maxHeartbeats 4000000 in
theorem c_X3_open (l : Launch) (G : v_Cfg) (x0 : Nat) (o0 : Nat) (g0 : Nat) (c0 : Nat) (sA : Nat) (ho : Nat) (de : Nat) (oFa : Nat) (oWi : Nat) (oPa : Nat) (oQu : Nat) (oSh : Nat) (hk : Nat) (fl : Int32) (ai : Int32) (rn : Int32) (rf : Int32) (rt : Int32) (qu : Nat → Int32) (x : Int32) (y : Int32) (hde : de ≤ 90) (hk6 : hk ≤ 6) : MuI l G yX3_open cX3_open 4 (some .int) 1 [.ref x0, .int x, .int y] [(x0, .inr (3, [.ref o0, .ref g0, .ref c0, .ref sA, .int (nI ho), .int (nI de)])), (o0, .inr (2, [.ref oFa, .ref oWi, .ref oPa, .ref oQu, .ref oSh, .int (nI hk), .int fl, .int ai, .int rn, .int rf, .int rt])), (oQu, .inl (G.2.1, 6, .inl qu))] [(x0, .inr (3, [.ref o0, .ref g0, .ref c0, .ref sA, .int (nI ho), .int (nI (s_sel2 (s_ish x (nI hk)) (s_in y 0 4) (s_fu de) de de (de + 1)))])), (o0, .inr (2, [.ref oFa, .ref oWi, .ref oPa, .ref oQu, .ref oSh, .int (nI hk), .int fl, .int ai, .int rn, .int rf, .int rt])), (oQu, .inl (G.2.1, 6, .inl (s_sel2 (s_ish x (nI hk)) (s_in y 0 4) (s_fu de) qu qu (upd qu x.toNatClampNeg y))))] (s_sel2 (s_ish x (nI hk)) (s_in y 0 4) (s_fu de) ((-1)) ((-3)) (qu x.toNatClampNeg)) := by
  refine MuI.of (own := RX3) (by decide) rfl (Nat.le_of_ble_eq_true rfl) (fun p e s m below meth c => ?_)
  refine v_aload_n dX3_open_0 rfl 0 rfl ?_
  refine v_get fX3_10 dX3_open_1 0 rfl rfl ?_
  refine v_iload_n dX3_open_4 rfl 1 rfl ?_
  refine v_vRd (As := [.int x]) (rest := []) (c_X2_isHatch l G o0 oFa oWi oPa oQu oSh hk fl ai rn rf rt x ) YX2_isHatch mX3_55 dX3_open_5 ciX2 1 rfl [1] rfl rfl rfl (Nat.le_of_ble_eq_true rfl) (by decide) (by decide) ?_
  refine v_if_eq (tgt := 20) dX3_open_8 (by decide) (fun h8 => ?_) (fun h8 => ?_)
  · skip
    refine v_iconst (v := (-1)) dX3_open_20 (by decide) ?_
    exact v_iretM dX3_open_21 (by simp only [s_sel2, if_pos h8] <;> rfl) (v_w2 (fun (z0 : Int32) (z1 : Nat → Int32) => ([(x0, .inr (3, [.ref o0, .ref g0, .ref c0, .ref sA, .int (nI ho), .int z0])), (o0, .inr (2, [.ref oFa, .ref oWi, .ref oPa, .ref oQu, .ref oSh, .int (nI hk), .int fl, .int ai, .int rn, .int rf, .int rt])), (oQu, .inl (G.2.1, 6, .inl z1))] : va_W)) (by simp only [s_sel2, if_pos h8, u_id] <;> rfl) (by simp only [s_sel2, if_pos h8, u_id] <;> rfl))
  · skip
    refine v_iload_n dX3_open_11 rfl 2 rfl ?_
    refine v_iconst (v := 0) dX3_open_12 (by decide) ?_
    refine v_iconst (v := 4) dX3_open_13 (by decide) ?_
    refine v_sRd (As := [.int y, .int 0, .int 4]) (rest := []) (c_X3_isWithin l G y 0 4 ) YX3_isWithin mX3_36 dX3_open_14 [] rfl rfl rfl (Nat.le_of_ble_eq_true rfl) (by decide) (by decide) ?_
    refine v_if_ne (tgt := 22) dX3_open_17 (by decide) (fun h17 => ?_) (fun h17 => ?_)
    · skip
      refine v_aload_n dX3_open_22 rfl 0 rfl ?_
      refine v_vRd (As := []) (rest := []) (c_X3_hasAllDeeds l G x0 o0 g0 c0 sA ho de (by omega)) YX3_hasAllDeeds mX3_44 dX3_open_23 ciX3 0 rfl [0] rfl rfl rfl (Nat.le_of_ble_eq_true rfl) (by decide) (by decide) ?_
      refine v_if_eq (tgt := 32) dX3_open_26 (by decide) (fun h26 => ?_) (fun h26 => ?_)
      · skip
        refine v_aload_n dX3_open_32 rfl 0 rfl ?_
        refine v_dup dX3_open_33 rfl ?_
        refine v_get fX3_48 dX3_open_34 0 rfl rfl ?_
        refine v_iconst (v := 1) dX3_open_37 (by decide) ?_
        refine v_iadd dX3_open_38 ?_
        refine v_eqi (nI (de + 1)) (nI_1 de) ?_
        refine v_puti (ws' := [(x0, .inr (3, [.ref o0, .ref g0, .ref c0, .ref sA, .int (nI ho), .int (nI (de + 1))])), (o0, .inr (2, [.ref oFa, .ref oWi, .ref oPa, .ref oQu, .ref oSh, .int (nI hk), .int fl, .int ai, .int rn, .int rf, .int rt])), (oQu, .inl (G.2.1, 6, .inl qu))]) pX3_48 dX3_open_39 0 rfl (Nat.le_of_ble_eq_true rfl) rfl ?_
        refine v_aload_n dX3_open_42 rfl 0 rfl ?_
        refine v_get fX3_10 dX3_open_43 0 rfl rfl ?_
        refine v_get fX3_59 dX3_open_46 1 rfl rfl ?_
        refine v_iload_n dX3_open_49 rfl 1 rfl ?_
        refine v_iald dX3_open_50 2 rfl x.toNatClampNeg ((s_ish_ix hk6 h8).1) (Nat.lt_of_lt_of_le (s_ish_ix hk6 h8).2 hk6) (by decide) ?_
        refine v_istore_n (lv' := [(3, .int (qu x.toNatClampNeg)), (0, .ref x0), (1, .int x), (2, .int y)]) dX3_open_51 rfl (by decide) rfl ?_
        refine v_aload_n dX3_open_52 rfl 1 rfl ?_
        refine v_get fX3_10 dX3_open_53 0 rfl rfl ?_
        refine v_get fX3_59 dX3_open_56 1 rfl rfl ?_
        refine v_iload_n dX3_open_59 rfl 2 rfl ?_
        refine v_iload_n dX3_open_60 rfl 3 rfl ?_
        refine v_iast (ws' := [(x0, .inr (3, [.ref o0, .ref g0, .ref c0, .ref sA, .int (nI ho), .int (nI (de + 1))])), (o0, .inr (2, [.ref oFa, .ref oWi, .ref oPa, .ref oQu, .ref oSh, .int (nI hk), .int fl, .int ai, .int rn, .int rf, .int rt])), (oQu, .inl (G.2.1, 6, .inl (upd qu x.toNatClampNeg y)))]) dX3_open_61 2 rfl x.toNatClampNeg ((s_ish_ix hk6 h8).1) (Nat.lt_of_lt_of_le (s_ish_ix hk6 h8).2 hk6) (by decide) rfl ?_
        refine v_iload_n dX3_open_62 rfl 0 rfl ?_
        exact v_iretM dX3_open_63 (by simp only [s_sel2, if_neg h8, if_neg h17, if_pos h26] <;> rfl) (v_w2 (fun (z0 : Int32) (z1 : Nat → Int32) => ([(x0, .inr (3, [.ref o0, .ref g0, .ref c0, .ref sA, .int (nI ho), .int z0])), (o0, .inr (2, [.ref oFa, .ref oWi, .ref oPa, .ref oQu, .ref oSh, .int (nI hk), .int fl, .int ai, .int rn, .int rf, .int rt])), (oQu, .inl (G.2.1, 6, .inl z1))] : va_W)) (by simp only [s_sel2, if_neg h8, if_neg h17, if_pos h26, u_id] <;> rfl) (by simp only [s_sel2, if_neg h8, if_neg h17, if_pos h26, u_id] <;> rfl))
      · skip
        refine v_bipush (v := (-3)) dX3_open_29 (by decide) ?_
        exact v_iretM dX3_open_31 (by simp only [s_sel2, if_neg h8, if_neg h17, if_neg h26] <;> rfl) (v_w2 (fun (z0 : Int32) (z1 : Nat → Int32) => ([(x0, .inr (3, [.ref o0, .ref g0, .ref c0, .ref sA, .int (nI ho), .int z0])), (o0, .inr (2, [.ref oFa, .ref oWi, .ref oPa, .ref oQu, .ref oSh, .int (nI hk), .int fl, .int ai, .int rn, .int rf, .int rt])), (oQu, .inl (G.2.1, 6, .inl z1))] : va_W)) (by simp only [s_sel2, if_neg h8, if_neg h17, if_neg h26, u_id] <;> rfl) (by simp only [s_sel2, if_neg h8, if_neg h17, if_neg h26, u_id] <;> rfl))
    · skip
      refine v_iconst (v := (-1)) dX3_open_20 (by decide) ?_
      exact v_iretM dX3_open_21 (by simp only [s_sel2, if_neg h8, if_pos h17] <;> rfl) (v_w2 (fun (z0 : Int32) (z1 : Nat → Int32) => ([(x0, .inr (3, [.ref o0, .ref g0, .ref c0, .ref sA, .int (nI ho), .int z0])), (o0, .inr (2, [.ref oFa, .ref oWi, .ref oPa, .ref oQu, .ref oSh, .int (nI hk), .int fl, .int ai, .int rn, .int rf, .int rt])), (oQu, .inl (G.2.1, 6, .inl z1))] : va_W)) (by simp only [s_sel2, if_neg h8, if_pos h17, u_id] <;> rfl) (by simp only [s_sel2, if_neg h8, if_pos h17, u_id] <;> rfl))

set_option maxRecDepth 100000 in
set_option maxHeartbeats 4000000 in
theorem c_X3_sheep (l : Launch) (G : v_Cfg) (x0 : Nat) (o0 : Nat) (g0 : Nat) (c0 : Nat) (sA : Nat) (ho : Nat) (de : Nat) (oFa : Nat) (oWi : Nat) (oPa : Nat) (oQu : Nat) (oSh : Nat) (hk : Nat) (fl : Int32) (ai : Int32) (rn : Int32) (rf : Int32) (rt : Int32) (sh : Nat → Int32) (pn : Nat → Nat) (x : Int32) (y : Int32) (z : Int32) (hde : de ≤ 90) (hk6 : hk ≤ 6) (hpn4 : ∀ h, pn h ≤ 4) : MuI l G yX3_sheep cX3_sheep 6 (some .int) 2 [.ref x0, .int x, .int y, .int z] [(x0, .inr (3, [.ref o0, .ref g0, .ref c0, .ref sA, .int (nI ho), .int (nI de)])), (o0, .inr (2, [.ref oFa, .ref oWi, .ref oPa, .ref oQu, .ref oSh, .int (nI hk), .int fl, .int ai, .int rn, .int rf, .int rt])), (oPa, .inl (G.2.1, 6, .inl (pN pn))), (oSh, .inl (G.2.1, 24, .inl sh))] [(x0, .inr (3, [.ref o0, .ref g0, .ref c0, .ref sA, .int (nI ho), .int (nI (s_sel2 (s_isp x y (nI hk) (pN pn x.toNatClampNeg)) (s_in z 0 50) (s_fu de) de de (de + 1)))])), (o0, .inr (2, [.ref oFa, .ref oWi, .ref oPa, .ref oQu, .ref oSh, .int (nI hk), .int fl, .int ai, .int rn, .int rf, .int rt])), (oPa, .inl (G.2.1, 6, .inl (pN pn))), (oSh, .inl (G.2.1, 24, .inl (s_sel2 (s_isp x y (nI hk) (pN pn x.toNatClampNeg)) (s_in z 0 50) (s_fu de) sh sh (upd sh (4 * x.toNatClampNeg + y.toNatClampNeg) z))))] (s_sel2 (s_isp x y (nI hk) (pN pn x.toNatClampNeg)) (s_in z 0 50) (s_fu de) ((-1)) ((-3)) (sh (4 * x.toNatClampNeg + y.toNatClampNeg))) := by
  refine MuI.of (own := RX3) (by decide) rfl (Nat.le_of_ble_eq_true rfl) (fun p e s m below meth c => ?_)
  refine v_aload_n dX3_sheep_0 rfl 0 rfl ?_
  refine v_get fX3_10 dX3_sheep_1 0 rfl rfl ?_
  refine v_iload_n dX3_sheep_4 rfl 1 rfl ?_
  refine v_iload_n dX3_sheep_5 rfl 2 rfl ?_
  refine v_vRd (As := [.int x, .int y]) (rest := []) (c_X2_isPane l G o0 oFa oWi oPa oQu oSh hk fl ai rn rf rt (pN pn) x y (by omega)) YX2_isPane mX3_76 dX3_sheep_6 ciX2 1 rfl [1, 2] rfl rfl rfl (Nat.le_of_ble_eq_true rfl) (by decide) (by decide) ?_
  refine v_if_eq (tgt := 22) dX3_sheep_9 (by decide) (fun h9 => ?_) (fun h9 => ?_)
  · skip
    refine v_iconst (v := (-1)) dX3_sheep_22 (by decide) ?_
    exact v_iretM dX3_sheep_23 (by simp only [s_sel2, if_pos h9] <;> rfl) (v_w2 (fun (z0 : Int32) (z1 : Nat → Int32) => ([(x0, .inr (3, [.ref o0, .ref g0, .ref c0, .ref sA, .int (nI ho), .int z0])), (o0, .inr (2, [.ref oFa, .ref oWi, .ref oPa, .ref oQu, .ref oSh, .int (nI hk), .int fl, .int ai, .int rn, .int rf, .int rt])), (oPa, .inl (G.2.1, 6, .inl (pN pn))), (oSh, .inl (G.2.1, 24, .inl z1))] : va_W)) (by simp only [s_sel2, if_pos h9, u_id] <;> rfl) (by simp only [s_sel2, if_pos h9, u_id] <;> rfl))
  · skip
    refine v_iload_n dX3_sheep_12 rfl 3 rfl ?_
    refine v_iconst (v := 0) dX3_sheep_13 (by decide) ?_
    refine v_bipush (v := 50) dX3_sheep_14 (by decide) ?_
    refine v_sRd (As := [.int z, .int 0, .int 50]) (rest := []) (c_X3_isWithin l G z 0 50 ) YX3_isWithin mX3_36 dX3_sheep_16 [] rfl rfl rfl (Nat.le_of_ble_eq_true rfl) (by decide) (by decide) ?_
    refine v_if_ne (tgt := 24) dX3_sheep_19 (by decide) (fun h19 => ?_) (fun h19 => ?_)
    · skip
      refine v_aload_n dX3_sheep_24 rfl 0 rfl ?_
      refine v_vRd (As := []) (rest := []) (c_X3_hasAllDeeds l G x0 o0 g0 c0 sA ho de (by omega)) YX3_hasAllDeeds mX3_44 dX3_sheep_25 ciX3 0 rfl [0] rfl rfl rfl (Nat.le_of_ble_eq_true rfl) (by decide) (by decide) ?_
      refine v_if_eq (tgt := 34) dX3_sheep_28 (by decide) (fun h28 => ?_) (fun h28 => ?_)
      · skip
        refine v_aload_n dX3_sheep_34 rfl 0 rfl ?_
        refine v_dup dX3_sheep_35 rfl ?_
        refine v_get fX3_48 dX3_sheep_36 0 rfl rfl ?_
        refine v_iconst (v := 1) dX3_sheep_39 (by decide) ?_
        refine v_iadd dX3_sheep_40 ?_
        refine v_eqi (nI (de + 1)) (nI_1 de) ?_
        refine v_puti (ws' := [(x0, .inr (3, [.ref o0, .ref g0, .ref c0, .ref sA, .int (nI ho), .int (nI (de + 1))])), (o0, .inr (2, [.ref oFa, .ref oWi, .ref oPa, .ref oQu, .ref oSh, .int (nI hk), .int fl, .int ai, .int rn, .int rf, .int rt])), (oPa, .inl (G.2.1, 6, .inl (pN pn))), (oSh, .inl (G.2.1, 24, .inl sh))]) pX3_48 dX3_sheep_41 0 rfl (Nat.le_of_ble_eq_true rfl) rfl ?_
        refine v_iload_n dX3_sheep_44 rfl 1 rfl ?_
        refine v_iload_n dX3_sheep_45 rfl 2 rfl ?_
        have hix := s_isp_ix hk6 (hpn4 x.toNatClampNeg) rfl h9
        refine v_stk (st' := [.int (nI y.toNatClampNeg), .int (nI x.toNatClampNeg)]) (v_s2 (fun (z0 : Int32) (z1 : Int32) => ([.int z1, .int z0] : List Value)) hix.1.1 hix.2.1) ?_
        have hi4 := hpn4 x.toNatClampNeg
        refine v_sRd (As := [.int (nI x.toNatClampNeg), .int (nI y.toNatClampNeg)]) (rest := []) (c_X3_placeOf l G x.toNatClampNeg y.toNatClampNeg ) YX3_placeOf mX3_80 dX3_sheep_46 [] rfl rfl rfl (Nat.le_of_ble_eq_true rfl) (by decide) (by decide) ?_
        refine v_istore (lv' := [(4, .int (nI (4 * x.toNatClampNeg + y.toNatClampNeg))), (0, .ref x0), (1, .int x), (2, .int y), (3, .int z)]) dX3_sheep_49 (by decide) rfl ?_
        refine v_aload_n dX3_sheep_51 rfl 1 rfl ?_
        refine v_get fX3_10 dX3_sheep_52 0 rfl rfl ?_
        refine v_get fX3_84 dX3_sheep_55 1 rfl rfl ?_
        refine v_iload dX3_sheep_58 0 rfl ?_
        refine v_iald dX3_sheep_60 3 rfl (4 * x.toNatClampNeg + y.toNatClampNeg) rfl (by omega) (by decide) ?_
        refine v_istore (lv' := [(5, .int (sh (4 * x.toNatClampNeg + y.toNatClampNeg))), (4, .int (nI (4 * x.toNatClampNeg + y.toNatClampNeg))), (0, .ref x0), (1, .int x), (2, .int y), (3, .int z)]) dX3_sheep_61 (by decide) rfl ?_
        refine v_aload_n dX3_sheep_63 rfl 2 rfl ?_
        refine v_get fX3_10 dX3_sheep_64 0 rfl rfl ?_
        refine v_get fX3_84 dX3_sheep_67 1 rfl rfl ?_
        refine v_iload dX3_sheep_70 1 rfl ?_
        refine v_iload_n dX3_sheep_72 rfl 5 rfl ?_
        refine v_iast (ws' := [(x0, .inr (3, [.ref o0, .ref g0, .ref c0, .ref sA, .int (nI ho), .int (nI (de + 1))])), (o0, .inr (2, [.ref oFa, .ref oWi, .ref oPa, .ref oQu, .ref oSh, .int (nI hk), .int fl, .int ai, .int rn, .int rf, .int rt])), (oPa, .inl (G.2.1, 6, .inl (pN pn))), (oSh, .inl (G.2.1, 24, .inl (upd sh (4 * x.toNatClampNeg + y.toNatClampNeg) z)))]) dX3_sheep_73 3 rfl (4 * x.toNatClampNeg + y.toNatClampNeg) rfl (by omega) (by decide) rfl ?_
        refine v_iload dX3_sheep_74 0 rfl ?_
        exact v_iretM dX3_sheep_76 (by simp only [s_sel2, if_neg h9, if_neg h19, if_pos h28] <;> rfl) (v_w2 (fun (z0 : Int32) (z1 : Nat → Int32) => ([(x0, .inr (3, [.ref o0, .ref g0, .ref c0, .ref sA, .int (nI ho), .int z0])), (o0, .inr (2, [.ref oFa, .ref oWi, .ref oPa, .ref oQu, .ref oSh, .int (nI hk), .int fl, .int ai, .int rn, .int rf, .int rt])), (oPa, .inl (G.2.1, 6, .inl (pN pn))), (oSh, .inl (G.2.1, 24, .inl z1))] : va_W)) (by simp only [s_sel2, if_neg h9, if_neg h19, if_pos h28, u_id] <;> rfl) (by simp only [s_sel2, if_neg h9, if_neg h19, if_pos h28, u_id] <;> rfl))
      · skip
        refine v_bipush (v := (-3)) dX3_sheep_31 (by decide) ?_
        exact v_iretM dX3_sheep_33 (by simp only [s_sel2, if_neg h9, if_neg h19, if_neg h28] <;> rfl) (v_w2 (fun (z0 : Int32) (z1 : Nat → Int32) => ([(x0, .inr (3, [.ref o0, .ref g0, .ref c0, .ref sA, .int (nI ho), .int z0])), (o0, .inr (2, [.ref oFa, .ref oWi, .ref oPa, .ref oQu, .ref oSh, .int (nI hk), .int fl, .int ai, .int rn, .int rf, .int rt])), (oPa, .inl (G.2.1, 6, .inl (pN pn))), (oSh, .inl (G.2.1, 24, .inl z1))] : va_W)) (by simp only [s_sel2, if_neg h9, if_neg h19, if_neg h28, u_id] <;> rfl) (by simp only [s_sel2, if_neg h9, if_neg h19, if_neg h28, u_id] <;> rfl))
    · skip
      refine v_iconst (v := (-1)) dX3_sheep_22 (by decide) ?_
      exact v_iretM dX3_sheep_23 (by simp only [s_sel2, if_neg h9, if_pos h19] <;> rfl) (v_w2 (fun (z0 : Int32) (z1 : Nat → Int32) => ([(x0, .inr (3, [.ref o0, .ref g0, .ref c0, .ref sA, .int (nI ho), .int z0])), (o0, .inr (2, [.ref oFa, .ref oWi, .ref oPa, .ref oQu, .ref oSh, .int (nI hk), .int fl, .int ai, .int rn, .int rf, .int rt])), (oPa, .inl (G.2.1, 6, .inl (pN pn))), (oSh, .inl (G.2.1, 24, .inl z1))] : va_W)) (by simp only [s_sel2, if_neg h9, if_pos h19, u_id] <;> rfl) (by simp only [s_sel2, if_neg h9, if_pos h19, u_id] <;> rfl))

set_option maxRecDepth 100000 in
set_option maxHeartbeats 4000000 in
theorem c_X3_right (l : Launch) (G : v_Cfg) (x0 : Nat) (o0 : Nat) (g0 : Nat) (c0 : Nat) (sA : Nat) (ho : Nat) (de : Nat) (oFa : Nat) (oWi : Nat) (oPa : Nat) (oQu : Nat) (oSh : Nat) (hk : Nat) (fl : Int32) (ai : Int32) (rn : Int32) (rf : Int32) (rt : Int32) (x : Int32) (y : Int32) (z : Int32) (hde : de ≤ 90) : MuI l G yX3_right cX3_right 5 (some .int) 1 [.ref x0, .int x, .int y, .int z] [(x0, .inr (3, [.ref o0, .ref g0, .ref c0, .ref sA, .int (nI ho), .int (nI de)])), (o0, .inr (2, [.ref oFa, .ref oWi, .ref oPa, .ref oQu, .ref oSh, .int (nI hk), .int fl, .int ai, .int rn, .int rf, .int rt]))] [(x0, .inr (3, [.ref o0, .ref g0, .ref c0, .ref sA, .int (nI ho), .int (nI (s_selR (s_in x 0 1000) (s_in y 0 24) (s_in z 0 24) y z (s_fu de) de de (de + 1)))])), (o0, .inr (2, [.ref oFa, .ref oWi, .ref oPa, .ref oQu, .ref oSh, .int (nI hk), .int fl, .int ai, .int (s_selR (s_in x 0 1000) (s_in y 0 24) (s_in z 0 24) y z (s_fu de) rn rn x), .int (s_selR (s_in x 0 1000) (s_in y 0 24) (s_in z 0 24) y z (s_fu de) rf rf y), .int (s_selR (s_in x 0 1000) (s_in y 0 24) (s_in z 0 24) y z (s_fu de) rt rt z)]))] (s_selR (s_in x 0 1000) (s_in y 0 24) (s_in z 0 24) y z (s_fu de) ((-1)) ((-3)) rn) := by
  refine MuI.of (own := RX3) (by decide) rfl (Nat.le_of_ble_eq_true rfl) (fun p e s m below meth c => ?_)
  refine v_iload_n dX3_right_0 rfl 1 rfl ?_
  refine v_iconst (v := 0) dX3_right_1 (by decide) ?_
  refine v_sipush (v := 1000) dX3_right_2 (by decide) ?_
  refine v_sRd (As := [.int x, .int 0, .int 1000]) (rest := []) (c_X3_isWithin l G x 0 1000 ) YX3_isWithin mX3_36 dX3_right_5 [] rfl rfl rfl (Nat.le_of_ble_eq_true rfl) (by decide) (by decide) ?_
  refine v_if_eq (tgt := 36) dX3_right_8 (by decide) (fun h8 => ?_) (fun h8 => ?_)
  · skip
    refine v_iconst (v := (-1)) dX3_right_36 (by decide) ?_
    exact v_iretM dX3_right_37 (by simp only [s_selR, if_pos h8] <;> rfl) (v_w4 (fun (z0 : Int32) (z1 : Int32) (z2 : Int32) (z3 : Int32) => ([(x0, .inr (3, [.ref o0, .ref g0, .ref c0, .ref sA, .int (nI ho), .int z0])), (o0, .inr (2, [.ref oFa, .ref oWi, .ref oPa, .ref oQu, .ref oSh, .int (nI hk), .int fl, .int ai, .int z1, .int z2, .int z3]))] : va_W)) (by simp only [s_selR, if_pos h8, u_id] <;> rfl) (by simp only [s_selR, if_pos h8, u_id] <;> rfl) (by simp only [s_selR, if_pos h8, u_id] <;> rfl) (by simp only [s_selR, if_pos h8, u_id] <;> rfl))
  · skip
    refine v_iload_n dX3_right_11 rfl 2 rfl ?_
    refine v_iconst (v := 0) dX3_right_12 (by decide) ?_
    refine v_bipush (v := 24) dX3_right_13 (by decide) ?_
    refine v_sRd (As := [.int y, .int 0, .int 24]) (rest := []) (c_X3_isWithin l G y 0 24 ) YX3_isWithin mX3_36 dX3_right_15 [] rfl rfl rfl (Nat.le_of_ble_eq_true rfl) (by decide) (by decide) ?_
    refine v_if_eq (tgt := 36) dX3_right_18 (by decide) (fun h18 => ?_) (fun h18 => ?_)
    · skip
      refine v_iconst (v := (-1)) dX3_right_36 (by decide) ?_
      exact v_iretM dX3_right_37 (by simp only [s_selR, if_neg h8, if_pos h18] <;> rfl) (v_w4 (fun (z0 : Int32) (z1 : Int32) (z2 : Int32) (z3 : Int32) => ([(x0, .inr (3, [.ref o0, .ref g0, .ref c0, .ref sA, .int (nI ho), .int z0])), (o0, .inr (2, [.ref oFa, .ref oWi, .ref oPa, .ref oQu, .ref oSh, .int (nI hk), .int fl, .int ai, .int z1, .int z2, .int z3]))] : va_W)) (by simp only [s_selR, if_neg h8, if_pos h18, u_id] <;> rfl) (by simp only [s_selR, if_neg h8, if_pos h18, u_id] <;> rfl) (by simp only [s_selR, if_neg h8, if_pos h18, u_id] <;> rfl) (by simp only [s_selR, if_neg h8, if_pos h18, u_id] <;> rfl))
    · skip
      refine v_iload_n dX3_right_21 rfl 3 rfl ?_
      refine v_iconst (v := 0) dX3_right_22 (by decide) ?_
      refine v_bipush (v := 24) dX3_right_23 (by decide) ?_
      refine v_sRd (As := [.int z, .int 0, .int 24]) (rest := []) (c_X3_isWithin l G z 0 24 ) YX3_isWithin mX3_36 dX3_right_25 [] rfl rfl rfl (Nat.le_of_ble_eq_true rfl) (by decide) (by decide) ?_
      refine v_if_eq (tgt := 36) dX3_right_28 (by decide) (fun h28 => ?_) (fun h28 => ?_)
      · skip
        refine v_iconst (v := (-1)) dX3_right_36 (by decide) ?_
        exact v_iretM dX3_right_37 (by simp only [s_selR, if_neg h8, if_neg h18, if_pos h28] <;> rfl) (v_w4 (fun (z0 : Int32) (z1 : Int32) (z2 : Int32) (z3 : Int32) => ([(x0, .inr (3, [.ref o0, .ref g0, .ref c0, .ref sA, .int (nI ho), .int z0])), (o0, .inr (2, [.ref oFa, .ref oWi, .ref oPa, .ref oQu, .ref oSh, .int (nI hk), .int fl, .int ai, .int z1, .int z2, .int z3]))] : va_W)) (by simp only [s_selR, if_neg h8, if_neg h18, if_pos h28, u_id] <;> rfl) (by simp only [s_selR, if_neg h8, if_neg h18, if_pos h28, u_id] <;> rfl) (by simp only [s_selR, if_neg h8, if_neg h18, if_pos h28, u_id] <;> rfl) (by simp only [s_selR, if_neg h8, if_neg h18, if_pos h28, u_id] <;> rfl))
      · skip
        refine v_iload_n dX3_right_31 rfl 2 rfl ?_
        refine v_iload_n dX3_right_32 rfl 3 rfl ?_
        refine v_icmp_lt (tgt := 38) dX3_right_33 (by decide) (fun h33 => ?_) (fun h33 => ?_)
        · skip
          refine v_aload_n dX3_right_38 rfl 0 rfl ?_
          refine v_vRd (As := []) (rest := []) (c_X3_hasAllDeeds l G x0 o0 g0 c0 sA ho de (by omega)) YX3_hasAllDeeds mX3_44 dX3_right_39 ciX3 0 rfl [0] rfl rfl rfl (Nat.le_of_ble_eq_true rfl) (by decide) (by decide) ?_
          refine v_if_eq (tgt := 48) dX3_right_42 (by decide) (fun h42 => ?_) (fun h42 => ?_)
          · skip
            refine v_aload_n dX3_right_48 rfl 0 rfl ?_
            refine v_dup dX3_right_49 rfl ?_
            refine v_get fX3_48 dX3_right_50 0 rfl rfl ?_
            refine v_iconst (v := 1) dX3_right_53 (by decide) ?_
            refine v_iadd dX3_right_54 ?_
            refine v_eqi (nI (de + 1)) (nI_1 de) ?_
            refine v_puti (ws' := [(x0, .inr (3, [.ref o0, .ref g0, .ref c0, .ref sA, .int (nI ho), .int (nI (de + 1))])), (o0, .inr (2, [.ref oFa, .ref oWi, .ref oPa, .ref oQu, .ref oSh, .int (nI hk), .int fl, .int ai, .int rn, .int rf, .int rt]))]) pX3_48 dX3_right_55 0 rfl (Nat.le_of_ble_eq_true rfl) rfl ?_
            refine v_aload_n dX3_right_58 rfl 0 rfl ?_
            refine v_get fX3_10 dX3_right_59 0 rfl rfl ?_
            refine v_get fX3_87 dX3_right_62 1 rfl rfl ?_
            refine v_istore (lv' := [(4, .int rn), (0, .ref x0), (1, .int x), (2, .int y), (3, .int z)]) dX3_right_65 (by decide) rfl ?_
            refine v_aload_n dX3_right_67 rfl 1 rfl ?_
            refine v_get fX3_10 dX3_right_68 0 rfl rfl ?_
            refine v_iload_n dX3_right_71 rfl 2 rfl ?_
            refine v_puti (ws' := [(x0, .inr (3, [.ref o0, .ref g0, .ref c0, .ref sA, .int (nI ho), .int (nI (de + 1))])), (o0, .inr (2, [.ref oFa, .ref oWi, .ref oPa, .ref oQu, .ref oSh, .int (nI hk), .int fl, .int ai, .int x, .int rf, .int rt]))]) pX3_87 dX3_right_72 1 rfl (Nat.le_of_ble_eq_true rfl) rfl ?_
            refine v_aload_n dX3_right_75 rfl 1 rfl ?_
            refine v_get fX3_10 dX3_right_76 0 rfl rfl ?_
            refine v_iload_n dX3_right_79 rfl 3 rfl ?_
            refine v_puti (ws' := [(x0, .inr (3, [.ref o0, .ref g0, .ref c0, .ref sA, .int (nI ho), .int (nI (de + 1))])), (o0, .inr (2, [.ref oFa, .ref oWi, .ref oPa, .ref oQu, .ref oSh, .int (nI hk), .int fl, .int ai, .int x, .int y, .int rt]))]) pX3_90 dX3_right_80 1 rfl (Nat.le_of_ble_eq_true rfl) rfl ?_
            refine v_aload_n dX3_right_83 rfl 1 rfl ?_
            refine v_get fX3_10 dX3_right_84 0 rfl rfl ?_
            refine v_iload_n dX3_right_87 rfl 4 rfl ?_
            refine v_puti (ws' := [(x0, .inr (3, [.ref o0, .ref g0, .ref c0, .ref sA, .int (nI ho), .int (nI (de + 1))])), (o0, .inr (2, [.ref oFa, .ref oWi, .ref oPa, .ref oQu, .ref oSh, .int (nI hk), .int fl, .int ai, .int x, .int y, .int z]))]) pX3_93 dX3_right_88 1 rfl (Nat.le_of_ble_eq_true rfl) rfl ?_
            refine v_iload dX3_right_91 0 rfl ?_
            exact v_iretM dX3_right_93 (by simp only [s_selR, if_neg h8, if_neg h18, if_neg h28, if_pos h33, if_pos h42] <;> rfl) (v_w4 (fun (z0 : Int32) (z1 : Int32) (z2 : Int32) (z3 : Int32) => ([(x0, .inr (3, [.ref o0, .ref g0, .ref c0, .ref sA, .int (nI ho), .int z0])), (o0, .inr (2, [.ref oFa, .ref oWi, .ref oPa, .ref oQu, .ref oSh, .int (nI hk), .int fl, .int ai, .int z1, .int z2, .int z3]))] : va_W)) (by simp only [s_selR, if_neg h8, if_neg h18, if_neg h28, if_pos h33, if_pos h42, u_id] <;> rfl) (by simp only [s_selR, if_neg h8, if_neg h18, if_neg h28, if_pos h33, if_pos h42, u_id] <;> rfl) (by simp only [s_selR, if_neg h8, if_neg h18, if_neg h28, if_pos h33, if_pos h42, u_id] <;> rfl) (by simp only [s_selR, if_neg h8, if_neg h18, if_neg h28, if_pos h33, if_pos h42, u_id] <;> rfl))
          · skip
            refine v_bipush (v := (-3)) dX3_right_45 (by decide) ?_
            exact v_iretM dX3_right_47 (by simp only [s_selR, if_neg h8, if_neg h18, if_neg h28, if_pos h33, if_neg h42] <;> rfl) (v_w4 (fun (z0 : Int32) (z1 : Int32) (z2 : Int32) (z3 : Int32) => ([(x0, .inr (3, [.ref o0, .ref g0, .ref c0, .ref sA, .int (nI ho), .int z0])), (o0, .inr (2, [.ref oFa, .ref oWi, .ref oPa, .ref oQu, .ref oSh, .int (nI hk), .int fl, .int ai, .int z1, .int z2, .int z3]))] : va_W)) (by simp only [s_selR, if_neg h8, if_neg h18, if_neg h28, if_pos h33, if_neg h42, u_id] <;> rfl) (by simp only [s_selR, if_neg h8, if_neg h18, if_neg h28, if_pos h33, if_neg h42, u_id] <;> rfl) (by simp only [s_selR, if_neg h8, if_neg h18, if_neg h28, if_pos h33, if_neg h42, u_id] <;> rfl) (by simp only [s_selR, if_neg h8, if_neg h18, if_neg h28, if_pos h33, if_neg h42, u_id] <;> rfl))
        · skip
          refine v_iconst (v := (-1)) dX3_right_36 (by decide) ?_
          exact v_iretM dX3_right_37 (by simp only [s_selR, if_neg h8, if_neg h18, if_neg h28, if_neg h33] <;> rfl) (v_w4 (fun (z0 : Int32) (z1 : Int32) (z2 : Int32) (z3 : Int32) => ([(x0, .inr (3, [.ref o0, .ref g0, .ref c0, .ref sA, .int (nI ho), .int z0])), (o0, .inr (2, [.ref oFa, .ref oWi, .ref oPa, .ref oQu, .ref oSh, .int (nI hk), .int fl, .int ai, .int z1, .int z2, .int z3]))] : va_W)) (by simp only [s_selR, if_neg h8, if_neg h18, if_neg h28, if_neg h33, u_id] <;> rfl) (by simp only [s_selR, if_neg h8, if_neg h18, if_neg h28, if_neg h33, u_id] <;> rfl) (by simp only [s_selR, if_neg h8, if_neg h18, if_neg h28, if_neg h33, u_id] <;> rfl) (by simp only [s_selR, if_neg h8, if_neg h18, if_neg h28, if_neg h33, u_id] <;> rfl))

set_option maxRecDepth 100000 in
set_option maxHeartbeats 4000000 in
theorem c_X3_hatch (l : Launch) (G : v_Cfg) (x0 : Nat) (o0 : Nat) (g0 : Nat) (c0 : Nat) (sA : Nat) (ho : Nat) (de : Nat) (oFa : Nat) (oWi : Nat) (oPa : Nat) (oQu : Nat) (oSh : Nat) (hk : Nat) (fl : Int32) (ai : Int32) (rn : Int32) (rf : Int32) (rt : Int32) (wi : Nat → Int32) (fn : Nat → Nat) (pn : Nat → Nat) (x : Int32) (y : Int32) (z : Int32) (hde : de ≤ 90) (hk6 : hk ≤ 6) : MuI l G yX3_hatch cX3_hatch 4 (some .int) 1 [.ref x0, .int x, .int y, .int z] [(x0, .inr (3, [.ref o0, .ref g0, .ref c0, .ref sA, .int (nI ho), .int (nI de)])), (o0, .inr (2, [.ref oFa, .ref oWi, .ref oPa, .ref oQu, .ref oSh, .int (nI hk), .int fl, .int ai, .int rn, .int rf, .int rt])), (oFa, .inl (G.2.1, 6, .inl (pN fn))), (oWi, .inl (G.2.1, 6, .inl wi)), (oPa, .inl (G.2.1, 6, .inl (pN pn)))] [(x0, .inr (3, [.ref o0, .ref g0, .ref c0, .ref sA, .int (nI ho), .int (nI (s_selH (s_in x 0 3) (s_in y 1 200) (s_in z 1 4) hk (s_fu de) de de (de + 1)))])), (o0, .inr (2, [.ref oFa, .ref oWi, .ref oPa, .ref oQu, .ref oSh, .int (nI (s_selH (s_in x 0 3) (s_in y 1 200) (s_in z 1 4) hk (s_fu de) hk hk (hk + 1))), .int fl, .int ai, .int rn, .int rf, .int rt])), (oFa, .inl (G.2.1, 6, .inl (pN (s_selH (s_in x 0 3) (s_in y 1 200) (s_in z 1 4) hk (s_fu de) fn fn (updN fn hk x.toNatClampNeg))))), (oWi, .inl (G.2.1, 6, .inl (s_selH (s_in x 0 3) (s_in y 1 200) (s_in z 1 4) hk (s_fu de) wi wi (upd wi hk y)))), (oPa, .inl (G.2.1, 6, .inl (pN (s_selH (s_in x 0 3) (s_in y 1 200) (s_in z 1 4) hk (s_fu de) pn pn (updN pn hk z.toNatClampNeg)))))] (s_selH (s_in x 0 3) (s_in y 1 200) (s_in z 1 4) hk (s_fu de) ((-1)) ((-3)) (nI hk)) := by
  refine MuI.of (own := RX3) (by decide) rfl (Nat.le_of_ble_eq_true rfl) (fun p e s m below meth c => ?_)
  refine v_iload_n dX3_hatch_0 rfl 1 rfl ?_
  refine v_iconst (v := 0) dX3_hatch_1 (by decide) ?_
  refine v_iconst (v := 3) dX3_hatch_2 (by decide) ?_
  refine v_sRd (As := [.int x, .int 0, .int 3]) (rest := []) (c_X3_isWithin l G x 0 3 ) YX3_isWithin mX3_36 dX3_hatch_3 [] rfl rfl rfl (Nat.le_of_ble_eq_true rfl) (by decide) (by decide) ?_
  refine v_if_eq (tgt := 29) dX3_hatch_6 (by decide) (fun h6 => ?_) (fun h6 => ?_)
  · skip
    refine v_iconst (v := (-1)) dX3_hatch_29 (by decide) ?_
    exact v_iretM dX3_hatch_30 (by simp only [s_selH, if_pos h6] <;> rfl) (v_w5 (fun (z0 : Int32) (z1 : Int32) (z2 : Nat → Int32) (z3 : Nat → Int32) (z4 : Nat → Int32) => ([(x0, .inr (3, [.ref o0, .ref g0, .ref c0, .ref sA, .int (nI ho), .int z0])), (o0, .inr (2, [.ref oFa, .ref oWi, .ref oPa, .ref oQu, .ref oSh, .int z1, .int fl, .int ai, .int rn, .int rf, .int rt])), (oFa, .inl (G.2.1, 6, .inl z2)), (oWi, .inl (G.2.1, 6, .inl z3)), (oPa, .inl (G.2.1, 6, .inl z4))] : va_W)) (by simp only [s_selH, if_pos h6, u_id] <;> rfl) (by simp only [s_selH, if_pos h6, u_id] <;> rfl) (by simp only [s_selH, if_pos h6, u_id] <;> rfl) (by simp only [s_selH, if_pos h6, u_id] <;> rfl) (by simp only [s_selH, if_pos h6, u_id] <;> rfl))
  · skip
    refine v_iload_n dX3_hatch_9 rfl 2 rfl ?_
    refine v_iconst (v := 1) dX3_hatch_10 (by decide) ?_
    refine v_sipush (v := 200) dX3_hatch_11 (by decide) ?_
    refine v_sRd (As := [.int y, .int 1, .int 200]) (rest := []) (c_X3_isWithin l G y 1 200 ) YX3_isWithin mX3_36 dX3_hatch_14 [] rfl rfl rfl (Nat.le_of_ble_eq_true rfl) (by decide) (by decide) ?_
    refine v_if_eq (tgt := 29) dX3_hatch_17 (by decide) (fun h17 => ?_) (fun h17 => ?_)
    · skip
      refine v_iconst (v := (-1)) dX3_hatch_29 (by decide) ?_
      exact v_iretM dX3_hatch_30 (by simp only [s_selH, if_neg h6, if_pos h17] <;> rfl) (v_w5 (fun (z0 : Int32) (z1 : Int32) (z2 : Nat → Int32) (z3 : Nat → Int32) (z4 : Nat → Int32) => ([(x0, .inr (3, [.ref o0, .ref g0, .ref c0, .ref sA, .int (nI ho), .int z0])), (o0, .inr (2, [.ref oFa, .ref oWi, .ref oPa, .ref oQu, .ref oSh, .int z1, .int fl, .int ai, .int rn, .int rf, .int rt])), (oFa, .inl (G.2.1, 6, .inl z2)), (oWi, .inl (G.2.1, 6, .inl z3)), (oPa, .inl (G.2.1, 6, .inl z4))] : va_W)) (by simp only [s_selH, if_neg h6, if_pos h17, u_id] <;> rfl) (by simp only [s_selH, if_neg h6, if_pos h17, u_id] <;> rfl) (by simp only [s_selH, if_neg h6, if_pos h17, u_id] <;> rfl) (by simp only [s_selH, if_neg h6, if_pos h17, u_id] <;> rfl) (by simp only [s_selH, if_neg h6, if_pos h17, u_id] <;> rfl))
    · skip
      refine v_iload_n dX3_hatch_20 rfl 3 rfl ?_
      refine v_iconst (v := 1) dX3_hatch_21 (by decide) ?_
      refine v_iconst (v := 4) dX3_hatch_22 (by decide) ?_
      refine v_sRd (As := [.int z, .int 1, .int 4]) (rest := []) (c_X3_isWithin l G z 1 4 ) YX3_isWithin mX3_36 dX3_hatch_23 [] rfl rfl rfl (Nat.le_of_ble_eq_true rfl) (by decide) (by decide) ?_
      refine v_if_ne (tgt := 31) dX3_hatch_26 (by decide) (fun h26 => ?_) (fun h26 => ?_)
      · skip
        refine v_aload_n dX3_hatch_31 rfl 0 rfl ?_
        refine v_get fX3_10 dX3_hatch_32 0 rfl rfl ?_
        refine v_get fX3_40 dX3_hatch_35 1 rfl rfl ?_
        refine v_bipush (v := nI 6) dX3_hatch_38 (by decide) ?_
        by_cases n40 : 6 ≤ hk
        · refine v_icmp_ge (tgt := 50) dX3_hatch_40 (by decide) (fun h40 => ?_) (fun h40 => absurd (nI_le n40 (by omega)) h40)
          refine v_bipush (v := (-3)) dX3_hatch_50 (by decide) ?_
          exact v_iretM dX3_hatch_52 (by simp only [s_selH, if_neg h6, if_neg h17, if_neg h26, if_pos n40] <;> rfl) (v_w5 (fun (z0 : Int32) (z1 : Int32) (z2 : Nat → Int32) (z3 : Nat → Int32) (z4 : Nat → Int32) => ([(x0, .inr (3, [.ref o0, .ref g0, .ref c0, .ref sA, .int (nI ho), .int z0])), (o0, .inr (2, [.ref oFa, .ref oWi, .ref oPa, .ref oQu, .ref oSh, .int z1, .int fl, .int ai, .int rn, .int rf, .int rt])), (oFa, .inl (G.2.1, 6, .inl z2)), (oWi, .inl (G.2.1, 6, .inl z3)), (oPa, .inl (G.2.1, 6, .inl z4))] : va_W)) (by simp only [s_selH, if_neg h6, if_neg h17, if_neg h26, if_pos n40, u_id] <;> rfl) (by simp only [s_selH, if_neg h6, if_neg h17, if_neg h26, if_pos n40, u_id] <;> rfl) (by simp only [s_selH, if_neg h6, if_neg h17, if_neg h26, if_pos n40, u_id] <;> rfl) (by simp only [s_selH, if_neg h6, if_neg h17, if_neg h26, if_pos n40, u_id] <;> rfl) (by simp only [s_selH, if_neg h6, if_neg h17, if_neg h26, if_pos n40, u_id] <;> rfl))
        · refine v_icmp_ge (tgt := 50) dX3_hatch_40 (by decide) (fun h40 => absurd h40 (nI_ge (by omega) (by omega))) (fun h40 => ?_)
          refine v_aload_n dX3_hatch_43 rfl 0 rfl ?_
          refine v_vRd (As := []) (rest := []) (c_X3_hasAllDeeds l G x0 o0 g0 c0 sA ho de (by omega)) YX3_hasAllDeeds mX3_44 dX3_hatch_44 ciX3 0 rfl [0] rfl rfl rfl (Nat.le_of_ble_eq_true rfl) (by decide) (by decide) ?_
          refine v_if_eq (tgt := 53) dX3_hatch_47 (by decide) (fun h47 => ?_) (fun h47 => ?_)
          · skip
            refine v_aload_n dX3_hatch_53 rfl 0 rfl ?_
            refine v_dup dX3_hatch_54 rfl ?_
            refine v_get fX3_48 dX3_hatch_55 0 rfl rfl ?_
            refine v_iconst (v := 1) dX3_hatch_58 (by decide) ?_
            refine v_iadd dX3_hatch_59 ?_
            refine v_eqi (nI (de + 1)) (nI_1 de) ?_
            refine v_puti (ws' := [(x0, .inr (3, [.ref o0, .ref g0, .ref c0, .ref sA, .int (nI ho), .int (nI (de + 1))])), (o0, .inr (2, [.ref oFa, .ref oWi, .ref oPa, .ref oQu, .ref oSh, .int (nI hk), .int fl, .int ai, .int rn, .int rf, .int rt])), (oFa, .inl (G.2.1, 6, .inl (pN fn))), (oWi, .inl (G.2.1, 6, .inl wi)), (oPa, .inl (G.2.1, 6, .inl (pN pn)))]) pX3_48 dX3_hatch_60 0 rfl (Nat.le_of_ble_eq_true rfl) rfl ?_
            refine v_aload_n dX3_hatch_63 rfl 0 rfl ?_
            refine v_get fX3_10 dX3_hatch_64 0 rfl rfl ?_
            refine v_iload_n dX3_hatch_67 rfl 1 rfl ?_
            refine v_iload_n dX3_hatch_68 rfl 2 rfl ?_
            refine v_iload_n dX3_hatch_69 rfl 3 rfl ?_
            refine v_stk (st' := [.int (nI z.toNatClampNeg), .int y, .int (nI x.toNatClampNeg), .ref o0]) (v_s2 (fun (z0 : Int32) (z1 : Int32) => ([.int z1, .int y, .int z0, .ref o0] : List Value)) ((s_in_ix (a := 0) (b := 3) h6 rfl rfl (by decide) (by decide)).1) ((s_in_ix (a := 1) (b := 4) h26 rfl rfl (by decide) (by decide)).1)) ?_
            refine v_vMi (ws' := [(x0, .inr (3, [.ref o0, .ref g0, .ref c0, .ref sA, .int (nI ho), .int (nI (de + 1))])), (o0, .inr (2, [.ref oFa, .ref oWi, .ref oPa, .ref oQu, .ref oSh, .int (nI (hk + 1)), .int fl, .int ai, .int rn, .int rf, .int rt])), (oFa, .inl (G.2.1, 6, .inl (pN (updN fn hk x.toNatClampNeg)))), (oWi, .inl (G.2.1, 6, .inl (upd wi hk y))), (oPa, .inl (G.2.1, 6, .inl (pN (updN pn hk z.toNatClampNeg))))]) (As := [.int (nI x.toNatClampNeg), .int y, .int (nI z.toNatClampNeg)]) (rest := []) (c_X2_addHatch l G o0 oFa oWi oPa oQu oSh hk fl ai rn rf rt wi fn pn x.toNatClampNeg y z.toNatClampNeg (by omega)) YX2_addHatch mX3_51 dX3_hatch_70 ciX2 1 rfl [1, 2, 3, 4] (by decide) rfl rfl rfl rfl rfl rfl (Nat.le_of_ble_eq_true rfl) (by decide) (by decide) ?_
            exact v_iretM dX3_hatch_73 (by simp only [s_selH, if_neg h6, if_neg h17, if_neg h26, if_neg n40, if_pos h47] <;> rfl) (v_w5 (fun (z0 : Int32) (z1 : Int32) (z2 : Nat → Int32) (z3 : Nat → Int32) (z4 : Nat → Int32) => ([(x0, .inr (3, [.ref o0, .ref g0, .ref c0, .ref sA, .int (nI ho), .int z0])), (o0, .inr (2, [.ref oFa, .ref oWi, .ref oPa, .ref oQu, .ref oSh, .int z1, .int fl, .int ai, .int rn, .int rf, .int rt])), (oFa, .inl (G.2.1, 6, .inl z2)), (oWi, .inl (G.2.1, 6, .inl z3)), (oPa, .inl (G.2.1, 6, .inl z4))] : va_W)) (by simp only [s_selH, if_neg h6, if_neg h17, if_neg h26, if_neg n40, if_pos h47, u_id] <;> rfl) (by simp only [s_selH, if_neg h6, if_neg h17, if_neg h26, if_neg n40, if_pos h47, u_id] <;> rfl) (by simp only [s_selH, if_neg h6, if_neg h17, if_neg h26, if_neg n40, if_pos h47, u_id] <;> rfl) (by simp only [s_selH, if_neg h6, if_neg h17, if_neg h26, if_neg n40, if_pos h47, u_id] <;> rfl) (by simp only [s_selH, if_neg h6, if_neg h17, if_neg h26, if_neg n40, if_pos h47, u_id] <;> rfl))
          · skip
            refine v_bipush (v := (-3)) dX3_hatch_50 (by decide) ?_
            exact v_iretM dX3_hatch_52 (by simp only [s_selH, if_neg h6, if_neg h17, if_neg h26, if_neg n40, if_neg h47] <;> rfl) (v_w5 (fun (z0 : Int32) (z1 : Int32) (z2 : Nat → Int32) (z3 : Nat → Int32) (z4 : Nat → Int32) => ([(x0, .inr (3, [.ref o0, .ref g0, .ref c0, .ref sA, .int (nI ho), .int z0])), (o0, .inr (2, [.ref oFa, .ref oWi, .ref oPa, .ref oQu, .ref oSh, .int z1, .int fl, .int ai, .int rn, .int rf, .int rt])), (oFa, .inl (G.2.1, 6, .inl z2)), (oWi, .inl (G.2.1, 6, .inl z3)), (oPa, .inl (G.2.1, 6, .inl z4))] : va_W)) (by simp only [s_selH, if_neg h6, if_neg h17, if_neg h26, if_neg n40, if_neg h47, u_id] <;> rfl) (by simp only [s_selH, if_neg h6, if_neg h17, if_neg h26, if_neg n40, if_neg h47, u_id] <;> rfl) (by simp only [s_selH, if_neg h6, if_neg h17, if_neg h26, if_neg n40, if_neg h47, u_id] <;> rfl) (by simp only [s_selH, if_neg h6, if_neg h17, if_neg h26, if_neg n40, if_neg h47, u_id] <;> rfl) (by simp only [s_selH, if_neg h6, if_neg h17, if_neg h26, if_neg n40, if_neg h47, u_id] <;> rfl))
      · skip
        refine v_iconst (v := (-1)) dX3_hatch_29 (by decide) ?_
        exact v_iretM dX3_hatch_30 (by simp only [s_selH, if_neg h6, if_neg h17, if_pos h26] <;> rfl) (v_w5 (fun (z0 : Int32) (z1 : Int32) (z2 : Nat → Int32) (z3 : Nat → Int32) (z4 : Nat → Int32) => ([(x0, .inr (3, [.ref o0, .ref g0, .ref c0, .ref sA, .int (nI ho), .int z0])), (o0, .inr (2, [.ref oFa, .ref oWi, .ref oPa, .ref oQu, .ref oSh, .int z1, .int fl, .int ai, .int rn, .int rf, .int rt])), (oFa, .inl (G.2.1, 6, .inl z2)), (oWi, .inl (G.2.1, 6, .inl z3)), (oPa, .inl (G.2.1, 6, .inl z4))] : va_W)) (by simp only [s_selH, if_neg h6, if_neg h17, if_pos h26, u_id] <;> rfl) (by simp only [s_selH, if_neg h6, if_neg h17, if_pos h26, u_id] <;> rfl) (by simp only [s_selH, if_neg h6, if_neg h17, if_pos h26, u_id] <;> rfl) (by simp only [s_selH, if_neg h6, if_neg h17, if_pos h26, u_id] <;> rfl) (by simp only [s_selH, if_neg h6, if_neg h17, if_pos h26, u_id] <;> rfl))

set_option maxRecDepth 100000 in
set_option maxHeartbeats 4000000 in
theorem c_X3_told (l : Launch) (G : v_Cfg) (x0 : Nat) (o0 : Nat) (g0 : Nat) (c0 : Nat) (sA : Nat) (ho : Nat) (de : Nat) (oFa : Nat) (oWi : Nat) (oPa : Nat) (oQu : Nat) (oSh : Nat) (hk : Nat) (fl : Int32) (ai : Int32) (rn : Int32) (rf : Int32) (rt : Int32) (nv : Int32) (aCa : Nat) (aTk : Nat) (aGr : Nat) (aGo : Nat) (aWe : Nat) (aDr : Nat) (aEa : Nat) (br : Int32) (du : Int32) (mi : Int32) (am : Int32) (mb : Int32) (wi : Nat → Int32) (qu : Nat → Int32) (ca : Nat → Int32) (tk : Nat → Int32) (fn : Nat → Nat) (pn : Nat → Nat) (x : Int32) (y : Int32) (hk6 : hk ≤ 6) : RdI l G yX3_told cX3_told 3 (some .int) 2 [.ref x0, .int x, .int y] [(x0, .inr (3, [.ref o0, .ref g0, .ref c0, .ref sA, .int (nI ho), .int (nI de)])), (o0, .inr (2, [.ref oFa, .ref oWi, .ref oPa, .ref oQu, .ref oSh, .int (nI hk), .int fl, .int ai, .int rn, .int rf, .int rt])), (oFa, .inl (G.2.1, 6, .inl (pN fn))), (oWi, .inl (G.2.1, 6, .inl wi)), (oPa, .inl (G.2.1, 6, .inl (pN pn))), (oQu, .inl (G.2.1, 6, .inl qu)), (c0, .inr (0, [.ref o0, .int nv, .ref aCa, .ref aTk, .ref aGr, .ref aGo, .ref aWe, .ref aDr, .ref aEa, .int br, .int du, .int mi, .int am, .int mb])), (aCa, .inl (G.2.1, 6, .inl ca)), (aTk, .inl (G.2.1, 6, .inl tk))] (s_told (s_ish x (nI hk)) y (pN fn x.toNatClampNeg) (wi x.toNatClampNeg) (pN pn x.toNatClampNeg) (qu x.toNatClampNeg) (ca x.toNatClampNeg) (s_most (wi x.toNatClampNeg) (ca x.toNatClampNeg)) (tk x.toNatClampNeg)) := by
  refine RdI.of (own := RX3) (by decide) rfl (Nat.le_of_ble_eq_true rfl) (fun p e s m below meth c => ?_)
  refine v_aload_n dX3_told_0 rfl 0 rfl ?_
  refine v_get fX3_10 dX3_told_1 0 rfl rfl ?_
  refine v_iload_n dX3_told_4 rfl 1 rfl ?_
  refine v_vRd (As := [.int x]) (rest := []) (c_X2_isHatch l G o0 oFa oWi oPa oQu oSh hk fl ai rn rf rt x ) YX2_isHatch mX3_55 dX3_told_5 ciX2 1 rfl [1] rfl rfl rfl (Nat.le_of_ble_eq_true rfl) (by decide) (by decide) ?_
  refine v_if_ne (tgt := 13) dX3_told_8 (by decide) (fun h8 => ?_) (fun h8 => ?_)
  · skip
    refine v_iload_n dX3_told_13 rfl 2 rfl ?_
    by_cases w14_0 : y = 0
    · refine v_eqi 0 w14_0 ?_
      refine v_tableIn (off := 46) (tgt := 60) dX3_told_14 (by decide) (by decide) (by decide) (by decide) ?_
      refine v_aload_n dX3_told_60 rfl 0 rfl ?_
      refine v_get fX3_10 dX3_told_61 0 rfl rfl ?_
      refine v_get fX3_102 dX3_told_64 1 rfl rfl ?_
      refine v_iload_n dX3_told_67 rfl 1 rfl ?_
      refine v_iald dX3_told_68 2 rfl x.toNatClampNeg ((s_ish_ix hk6 h8).1) (Nat.lt_of_lt_of_le (s_ish_ix hk6 h8).2 hk6) (by decide) ?_
      exact v_iretR dX3_told_69 (by simp only [s_told, if_neg h8, if_pos w14_0] <;> rfl)
    by_cases w14_1 : y = 1
    · refine v_eqi 1 w14_1 ?_
      refine v_tableIn (off := 56) (tgt := 70) dX3_told_14 (by decide) (by decide) (by decide) (by decide) ?_
      refine v_aload_n dX3_told_70 rfl 0 rfl ?_
      refine v_get fX3_10 dX3_told_71 0 rfl rfl ?_
      refine v_get fX3_105 dX3_told_74 1 rfl rfl ?_
      refine v_iload_n dX3_told_77 rfl 1 rfl ?_
      refine v_iald dX3_told_78 3 rfl x.toNatClampNeg ((s_ish_ix hk6 h8).1) (Nat.lt_of_lt_of_le (s_ish_ix hk6 h8).2 hk6) (by decide) ?_
      exact v_iretR dX3_told_79 (by simp only [s_told, if_neg h8, if_neg w14_0, if_pos w14_1] <;> rfl)
    by_cases w14_2 : y = 2
    · refine v_eqi 2 w14_2 ?_
      refine v_tableIn (off := 66) (tgt := 80) dX3_told_14 (by decide) (by decide) (by decide) (by decide) ?_
      refine v_aload_n dX3_told_80 rfl 0 rfl ?_
      refine v_get fX3_10 dX3_told_81 0 rfl rfl ?_
      refine v_get fX3_108 dX3_told_84 1 rfl rfl ?_
      refine v_iload_n dX3_told_87 rfl 1 rfl ?_
      refine v_iald dX3_told_88 4 rfl x.toNatClampNeg ((s_ish_ix hk6 h8).1) (Nat.lt_of_lt_of_le (s_ish_ix hk6 h8).2 hk6) (by decide) ?_
      exact v_iretR dX3_told_89 (by simp only [s_told, if_neg h8, if_neg w14_0, if_neg w14_1, if_pos w14_2] <;> rfl)
    by_cases w14_3 : y = 3
    · refine v_eqi 3 w14_3 ?_
      refine v_tableIn (off := 76) (tgt := 90) dX3_told_14 (by decide) (by decide) (by decide) (by decide) ?_
      refine v_aload_n dX3_told_90 rfl 0 rfl ?_
      refine v_get fX3_10 dX3_told_91 0 rfl rfl ?_
      refine v_get fX3_59 dX3_told_94 1 rfl rfl ?_
      refine v_iload_n dX3_told_97 rfl 1 rfl ?_
      refine v_iald dX3_told_98 5 rfl x.toNatClampNeg ((s_ish_ix hk6 h8).1) (Nat.lt_of_lt_of_le (s_ish_ix hk6 h8).2 hk6) (by decide) ?_
      exact v_iretR dX3_told_99 (by simp only [s_told, if_neg h8, if_neg w14_0, if_neg w14_1, if_neg w14_2, if_pos w14_3] <;> rfl)
    by_cases w14_4 : y = 4
    · refine v_eqi 4 w14_4 ?_
      refine v_tableIn (off := 86) (tgt := 100) dX3_told_14 (by decide) (by decide) (by decide) (by decide) ?_
      refine v_aload_n dX3_told_100 rfl 0 rfl ?_
      refine v_get fX3_28 dX3_told_101 0 rfl rfl ?_
      refine v_iload_n dX3_told_104 rfl 1 rfl ?_
      refine v_stk (st' := [.int (nI x.toNatClampNeg), .ref c0]) (v_s1 (fun (z0 : Int32) => ([.int z0, .ref c0] : List Value)) ((s_ish_ix hk6 h8).1)) ?_
      refine v_vRd (As := [.int (nI x.toNatClampNeg)]) (rest := []) (c_X0_siltOf l G c0 o0 nv aCa aTk aGr aGo aWe aDr aEa br du mi am mb ca x.toNatClampNeg (Nat.lt_of_lt_of_le (s_ish_ix hk6 h8).2 hk6)) YX0_siltOf mX3_69 dX3_told_105 ciX0 6 rfl [6, 7] rfl rfl rfl (Nat.le_of_ble_eq_true rfl) (by decide) (by decide) ?_
      exact v_iretR dX3_told_108 (by simp only [s_told, if_neg h8, if_neg w14_0, if_neg w14_1, if_neg w14_2, if_neg w14_3, if_pos w14_4] <;> rfl)
    by_cases w14_5 : y = 5
    · refine v_eqi 5 w14_5 ?_
      refine v_tableIn (off := 95) (tgt := 109) dX3_told_14 (by decide) (by decide) (by decide) (by decide) ?_
      refine v_aload_n dX3_told_109 rfl 0 rfl ?_
      refine v_get fX3_28 dX3_told_110 0 rfl rfl ?_
      refine v_get fX3_73 dX3_told_113 6 rfl rfl ?_
      refine v_iload_n dX3_told_116 rfl 1 rfl ?_
      refine v_iald dX3_told_117 7 rfl x.toNatClampNeg ((s_ish_ix hk6 h8).1) (Nat.lt_of_lt_of_le (s_ish_ix hk6 h8).2 hk6) (by decide) ?_
      exact v_iretR dX3_told_118 (by simp only [s_told, if_neg h8, if_neg w14_0, if_neg w14_1, if_neg w14_2, if_neg w14_3, if_neg w14_4, if_pos w14_5] <;> rfl)
    by_cases w14_6 : y = 6
    · refine v_eqi 6 w14_6 ?_
      refine v_tableIn (off := 105) (tgt := 119) dX3_told_14 (by decide) (by decide) (by decide) (by decide) ?_
      refine v_aload_n dX3_told_119 rfl 0 rfl ?_
      refine v_get fX3_28 dX3_told_120 0 rfl rfl ?_
      refine v_iload_n dX3_told_123 rfl 1 rfl ?_
      refine v_stk (st' := [.int (nI x.toNatClampNeg), .ref c0]) (v_s1 (fun (z0 : Int32) => ([.int z0, .ref c0] : List Value)) ((s_ish_ix hk6 h8).1)) ?_
      refine v_vRd (As := [.int (nI x.toNatClampNeg)]) (rest := []) (c_X0_mostOf l G c0 o0 nv aCa aTk aGr aGo aWe aDr aEa br du mi am mb oFa oWi oPa oQu oSh hk fl ai rn rf rt ca wi x.toNatClampNeg (Nat.lt_of_lt_of_le (s_ish_ix hk6 h8).2 hk6)) YX0_mostOf mX3_111 dX3_told_124 ciX0 6 rfl [6, 7, 1, 3] rfl rfl rfl (Nat.le_of_ble_eq_true rfl) (by decide) (by decide) ?_
      exact v_iretR dX3_told_127 (by simp only [s_told, if_neg h8, if_neg w14_0, if_neg w14_1, if_neg w14_2, if_neg w14_3, if_neg w14_4, if_neg w14_5, if_pos w14_6] <;> rfl)
    by_cases w14_7 : y = 7
    · refine v_eqi 7 w14_7 ?_
      refine v_tableIn (off := 114) (tgt := 128) dX3_told_14 (by decide) (by decide) (by decide) (by decide) ?_
      refine v_aload_n dX3_told_128 rfl 0 rfl ?_
      refine v_get fX3_28 dX3_told_129 0 rfl rfl ?_
      refine v_get fX3_114 dX3_told_132 6 rfl rfl ?_
      refine v_iload_n dX3_told_135 rfl 1 rfl ?_
      refine v_iald dX3_told_136 8 rfl x.toNatClampNeg ((s_ish_ix hk6 h8).1) (Nat.lt_of_lt_of_le (s_ish_ix hk6 h8).2 hk6) (by decide) ?_
      exact v_iretR dX3_told_137 (by simp only [s_told, if_neg h8, if_neg w14_0, if_neg w14_1, if_neg w14_2, if_neg w14_3, if_neg w14_4, if_neg w14_5, if_neg w14_6, if_pos w14_7] <;> rfl)
    refine v_tableOut (tgt := 138) dX3_told_14 (by have q0 := lv_neT w14_0 (a := 0) (by decide); have q1 := lv_neT w14_1 (a := 1) (by decide); have q2 := lv_neT w14_2 (a := 2) (by decide); have q3 := lv_neT w14_3 (a := 3) (by decide); have q4 := lv_neT w14_4 (a := 4) (by decide); have q5 := lv_neT w14_5 (a := 5) (by decide); have q6 := lv_neT w14_6 (a := 6) (by decide); have q7 := lv_neT w14_7 (a := 7) (by decide); omega) (by decide) ?_
    refine v_iconst (v := (-1)) dX3_told_138 (by decide) ?_
    exact v_iretR dX3_told_139 (by simp only [s_told, if_neg h8, if_neg w14_0, if_neg w14_1, if_neg w14_2, if_neg w14_3, if_neg w14_4, if_neg w14_5, if_neg w14_6, if_neg w14_7] <;> rfl)
  · skip
    refine v_iconst (v := (-1)) dX3_told_11 (by decide) ?_
    exact v_iretR dX3_told_12 (by simp only [s_told, if_pos h8] <;> rfl)

set_option maxRecDepth 100000 in
set_option maxHeartbeats 4000000 in
theorem c_X3_pane (l : Launch) (G : v_Cfg) (x0 : Nat) (o0 : Nat) (g0 : Nat) (c0 : Nat) (sA : Nat) (ho : Nat) (de : Nat) (oFa : Nat) (oWi : Nat) (oPa : Nat) (oQu : Nat) (oSh : Nat) (hk : Nat) (fl : Int32) (ai : Int32) (rn : Int32) (rf : Int32) (rt : Int32) (nv : Int32) (aCa : Nat) (aTk : Nat) (aGr : Nat) (aGo : Nat) (aWe : Nat) (aDr : Nat) (aEa : Nat) (br : Int32) (du : Int32) (mi : Int32) (am : Int32) (mb : Int32) (sh : Nat → Int32) (gr : Nat → Int32) (go : Nat → Int32) (we : Nat → Int32) (dr : Nat → Int32) (ea : Nat → Int32) (pn : Nat → Nat) (x : Int32) (y : Int32) (z : Int32) (hk6 : hk ≤ 6) (hpn4 : ∀ h, pn h ≤ 4) : RdI l G yX3_pane cX3_pane 5 (some .int) 2 [.ref x0, .int x, .int y, .int z] [(x0, .inr (3, [.ref o0, .ref g0, .ref c0, .ref sA, .int (nI ho), .int (nI de)])), (o0, .inr (2, [.ref oFa, .ref oWi, .ref oPa, .ref oQu, .ref oSh, .int (nI hk), .int fl, .int ai, .int rn, .int rf, .int rt])), (oPa, .inl (G.2.1, 6, .inl (pN pn))), (oSh, .inl (G.2.1, 24, .inl sh)), (c0, .inr (0, [.ref o0, .int nv, .ref aCa, .ref aTk, .ref aGr, .ref aGo, .ref aWe, .ref aDr, .ref aEa, .int br, .int du, .int mi, .int am, .int mb])), (aGr, .inl (G.2.1, 24, .inl gr)), (aGo, .inl (G.2.1, 24, .inl go)), (aWe, .inl (G.2.1, 24, .inl we)), (aDr, .inl (G.2.1, 24, .inl dr)), (aEa, .inl (G.2.1, 24, .inl ea))] (s_pane (s_isp x y (nI hk) (pN pn x.toNatClampNeg)) z (gr (4 * x.toNatClampNeg + y.toNatClampNeg)) (go (4 * x.toNatClampNeg + y.toNatClampNeg)) (we (4 * x.toNatClampNeg + y.toNatClampNeg)) (dr (4 * x.toNatClampNeg + y.toNatClampNeg)) (sh (4 * x.toNatClampNeg + y.toNatClampNeg)) (ea (4 * x.toNatClampNeg + y.toNatClampNeg))) := by
  refine RdI.of (own := RX3) (by decide) rfl (Nat.le_of_ble_eq_true rfl) (fun p e s m below meth c => ?_)
  refine v_aload_n dX3_pane_0 rfl 0 rfl ?_
  refine v_get fX3_10 dX3_pane_1 0 rfl rfl ?_
  refine v_iload_n dX3_pane_4 rfl 1 rfl ?_
  refine v_iload_n dX3_pane_5 rfl 2 rfl ?_
  refine v_vRd (As := [.int x, .int y]) (rest := []) (c_X2_isPane l G o0 oFa oWi oPa oQu oSh hk fl ai rn rf rt (pN pn) x y (by omega)) YX2_isPane mX3_76 dX3_pane_6 ciX2 1 rfl [1, 2] rfl rfl rfl (Nat.le_of_ble_eq_true rfl) (by decide) (by decide) ?_
  refine v_if_ne (tgt := 14) dX3_pane_9 (by decide) (fun h9 => ?_) (fun h9 => ?_)
  · skip
    refine v_iload_n dX3_pane_14 rfl 1 rfl ?_
    refine v_iload_n dX3_pane_15 rfl 2 rfl ?_
    have hix := s_isp_ix hk6 (hpn4 x.toNatClampNeg) rfl h9
    refine v_stk (st' := [.int (nI y.toNatClampNeg), .int (nI x.toNatClampNeg)]) (v_s2 (fun (z0 : Int32) (z1 : Int32) => ([.int z1, .int z0] : List Value)) hix.1.1 hix.2.1) ?_
    have hi4 := hpn4 x.toNatClampNeg
    refine v_sRd (As := [.int (nI x.toNatClampNeg), .int (nI y.toNatClampNeg)]) (rest := []) (c_X3_placeOf l G x.toNatClampNeg y.toNatClampNeg ) YX3_placeOf mX3_80 dX3_pane_16 [] rfl rfl rfl (Nat.le_of_ble_eq_true rfl) (by decide) (by decide) ?_
    refine v_istore (lv' := [(4, .int (nI (4 * x.toNatClampNeg + y.toNatClampNeg))), (0, .ref x0), (1, .int x), (2, .int y), (3, .int z)]) dX3_pane_19 (by decide) rfl ?_
    refine v_iload_n dX3_pane_21 rfl 4 rfl ?_
    by_cases w22_0 : z = 0
    · refine v_eqi 0 w22_0 ?_
      refine v_tableIn (off := 38) (tgt := 60) dX3_pane_22 (by decide) (by decide) (by decide) (by decide) ?_
      refine v_aload_n dX3_pane_60 rfl 1 rfl ?_
      refine v_get fX3_28 dX3_pane_61 0 rfl rfl ?_
      refine v_get fX3_117 dX3_pane_64 4 rfl rfl ?_
      refine v_iload dX3_pane_67 0 rfl ?_
      refine v_iald dX3_pane_69 5 rfl (4 * x.toNatClampNeg + y.toNatClampNeg) rfl (by omega) (by decide) ?_
      exact v_iretR dX3_pane_70 (by simp only [s_pane, if_neg h9, if_pos w22_0] <;> rfl)
    by_cases w22_1 : z = 1
    · refine v_eqi 1 w22_1 ?_
      refine v_tableIn (off := 49) (tgt := 71) dX3_pane_22 (by decide) (by decide) (by decide) (by decide) ?_
      refine v_aload_n dX3_pane_71 rfl 1 rfl ?_
      refine v_get fX3_28 dX3_pane_72 0 rfl rfl ?_
      refine v_get fX3_120 dX3_pane_75 4 rfl rfl ?_
      refine v_iload dX3_pane_78 0 rfl ?_
      refine v_iald dX3_pane_80 6 rfl (4 * x.toNatClampNeg + y.toNatClampNeg) rfl (by omega) (by decide) ?_
      exact v_iretR dX3_pane_81 (by simp only [s_pane, if_neg h9, if_neg w22_0, if_pos w22_1] <;> rfl)
    by_cases w22_2 : z = 2
    · refine v_eqi 2 w22_2 ?_
      refine v_tableIn (off := 60) (tgt := 82) dX3_pane_22 (by decide) (by decide) (by decide) (by decide) ?_
      refine v_aload_n dX3_pane_82 rfl 1 rfl ?_
      refine v_get fX3_28 dX3_pane_83 0 rfl rfl ?_
      refine v_get fX3_123 dX3_pane_86 4 rfl rfl ?_
      refine v_iload dX3_pane_89 0 rfl ?_
      refine v_iald dX3_pane_91 7 rfl (4 * x.toNatClampNeg + y.toNatClampNeg) rfl (by omega) (by decide) ?_
      exact v_iretR dX3_pane_92 (by simp only [s_pane, if_neg h9, if_neg w22_0, if_neg w22_1, if_pos w22_2] <;> rfl)
    by_cases w22_3 : z = 3
    · refine v_eqi 3 w22_3 ?_
      refine v_tableIn (off := 71) (tgt := 93) dX3_pane_22 (by decide) (by decide) (by decide) (by decide) ?_
      refine v_aload_n dX3_pane_93 rfl 1 rfl ?_
      refine v_get fX3_28 dX3_pane_94 0 rfl rfl ?_
      refine v_get fX3_126 dX3_pane_97 4 rfl rfl ?_
      refine v_iload dX3_pane_100 0 rfl ?_
      refine v_iald dX3_pane_102 8 rfl (4 * x.toNatClampNeg + y.toNatClampNeg) rfl (by omega) (by decide) ?_
      exact v_iretR dX3_pane_103 (by simp only [s_pane, if_neg h9, if_neg w22_0, if_neg w22_1, if_neg w22_2, if_pos w22_3] <;> rfl)
    by_cases w22_4 : z = 4
    · refine v_eqi 4 w22_4 ?_
      refine v_tableIn (off := 82) (tgt := 104) dX3_pane_22 (by decide) (by decide) (by decide) (by decide) ?_
      refine v_aload_n dX3_pane_104 rfl 1 rfl ?_
      refine v_get fX3_10 dX3_pane_105 0 rfl rfl ?_
      refine v_get fX3_84 dX3_pane_108 1 rfl rfl ?_
      refine v_iload dX3_pane_111 0 rfl ?_
      refine v_iald dX3_pane_113 3 rfl (4 * x.toNatClampNeg + y.toNatClampNeg) rfl (by omega) (by decide) ?_
      exact v_iretR dX3_pane_114 (by simp only [s_pane, if_neg h9, if_neg w22_0, if_neg w22_1, if_neg w22_2, if_neg w22_3, if_pos w22_4] <;> rfl)
    by_cases w22_5 : z = 5
    · refine v_eqi 5 w22_5 ?_
      refine v_tableIn (off := 93) (tgt := 115) dX3_pane_22 (by decide) (by decide) (by decide) (by decide) ?_
      refine v_aload_n dX3_pane_115 rfl 1 rfl ?_
      refine v_get fX3_28 dX3_pane_116 0 rfl rfl ?_
      refine v_get fX3_129 dX3_pane_119 4 rfl rfl ?_
      refine v_iload dX3_pane_122 0 rfl ?_
      refine v_iald dX3_pane_124 9 rfl (4 * x.toNatClampNeg + y.toNatClampNeg) rfl (by omega) (by decide) ?_
      exact v_iretR dX3_pane_125 (by simp only [s_pane, if_neg h9, if_neg w22_0, if_neg w22_1, if_neg w22_2, if_neg w22_3, if_neg w22_4, if_pos w22_5] <;> rfl)
    refine v_tableOut (tgt := 126) dX3_pane_22 (by have q0 := lv_neT w22_0 (a := 0) (by decide); have q1 := lv_neT w22_1 (a := 1) (by decide); have q2 := lv_neT w22_2 (a := 2) (by decide); have q3 := lv_neT w22_3 (a := 3) (by decide); have q4 := lv_neT w22_4 (a := 4) (by decide); have q5 := lv_neT w22_5 (a := 5) (by decide); omega) (by decide) ?_
    refine v_iconst (v := (-1)) dX3_pane_126 (by decide) ?_
    exact v_iretR dX3_pane_127 (by simp only [s_pane, if_neg h9, if_neg w22_0, if_neg w22_1, if_neg w22_2, if_neg w22_3, if_neg w22_4, if_neg w22_5] <;> rfl)
  · skip
    refine v_iconst (v := (-1)) dX3_pane_12 (by decide) ?_
    exact v_iretR dX3_pane_13 (by simp only [s_pane, if_pos h9] <;> rfl)

set_option maxRecDepth 100000 in
set_option maxHeartbeats 4000000 in
theorem c_X3_stream (l : Launch) (G : v_Cfg) (x0 : Nat) (o0 : Nat) (g0 : Nat) (c0 : Nat) (sA : Nat) (ho : Nat) (de : Nat) (oFa : Nat) (oWi : Nat) (oPa : Nat) (oQu : Nat) (oSh : Nat) (hk : Nat) (fl : Int32) (ai : Int32) (rn : Int32) (rf : Int32) (rt : Int32) (nv : Int32) (aCa : Nat) (aTk : Nat) (aGr : Nat) (aGo : Nat) (aWe : Nat) (aDr : Nat) (aEa : Nat) (br : Int32) (du : Int32) (mi : Int32) (am : Int32) (mb : Int32) (x : Int32)  : RdI l G yX3_stream cX3_stream 2 (some .int) 0 [.ref x0, .int x] [(x0, .inr (3, [.ref o0, .ref g0, .ref c0, .ref sA, .int (nI ho), .int (nI de)])), (o0, .inr (2, [.ref oFa, .ref oWi, .ref oPa, .ref oQu, .ref oSh, .int (nI hk), .int fl, .int ai, .int rn, .int rf, .int rt])), (c0, .inr (0, [.ref o0, .int nv, .ref aCa, .ref aTk, .ref aGr, .ref aGo, .ref aWe, .ref aDr, .ref aEa, .int br, .int du, .int mi, .int am, .int mb]))] (s_strm x fl ai br du mi am mb) := by
  refine RdI.of (own := RX3) (by decide) rfl (Nat.le_of_ble_eq_true rfl) (fun p e s m below meth c => ?_)
  refine v_iload_n dX3_stream_0 rfl 1 rfl ?_
  by_cases w1_0 : x = 0
  · refine v_eqi 0 w1_0 ?_
    refine v_tableIn (off := 43) (tgt := 44) dX3_stream_1 (by decide) (by decide) (by decide) (by decide) ?_
    refine v_aload_n dX3_stream_44 rfl 0 rfl ?_
    refine v_get fX3_10 dX3_stream_45 0 rfl rfl ?_
    refine v_get fX3_63 dX3_stream_48 1 rfl rfl ?_
    exact v_iretR dX3_stream_51 (by simp only [s_strm, if_pos w1_0] <;> rfl)
  by_cases w1_1 : x = 1
  · refine v_eqi 1 w1_1 ?_
    refine v_tableIn (off := 51) (tgt := 52) dX3_stream_1 (by decide) (by decide) (by decide) (by decide) ?_
    refine v_aload_n dX3_stream_52 rfl 0 rfl ?_
    refine v_get fX3_10 dX3_stream_53 0 rfl rfl ?_
    refine v_get fX3_66 dX3_stream_56 1 rfl rfl ?_
    exact v_iretR dX3_stream_59 (by simp only [s_strm, if_neg w1_0, if_pos w1_1] <;> rfl)
  by_cases w1_2 : x = 2
  · refine v_eqi 2 w1_2 ?_
    refine v_tableIn (off := 59) (tgt := 60) dX3_stream_1 (by decide) (by decide) (by decide) (by decide) ?_
    refine v_aload_n dX3_stream_60 rfl 0 rfl ?_
    refine v_get fX3_28 dX3_stream_61 0 rfl rfl ?_
    refine v_get fX3_132 dX3_stream_64 2 rfl rfl ?_
    exact v_iretR dX3_stream_67 (by simp only [s_strm, if_neg w1_0, if_neg w1_1, if_pos w1_2] <;> rfl)
  by_cases w1_3 : x = 3
  · refine v_eqi 3 w1_3 ?_
    refine v_tableIn (off := 67) (tgt := 68) dX3_stream_1 (by decide) (by decide) (by decide) (by decide) ?_
    refine v_aload_n dX3_stream_68 rfl 0 rfl ?_
    refine v_get fX3_28 dX3_stream_69 0 rfl rfl ?_
    refine v_get fX3_135 dX3_stream_72 2 rfl rfl ?_
    exact v_iretR dX3_stream_75 (by simp only [s_strm, if_neg w1_0, if_neg w1_1, if_neg w1_2, if_pos w1_3] <;> rfl)
  by_cases w1_4 : x = 4
  · refine v_eqi 4 w1_4 ?_
    refine v_tableIn (off := 75) (tgt := 76) dX3_stream_1 (by decide) (by decide) (by decide) (by decide) ?_
    refine v_aload_n dX3_stream_76 rfl 0 rfl ?_
    refine v_get fX3_28 dX3_stream_77 0 rfl rfl ?_
    refine v_get fX3_138 dX3_stream_80 2 rfl rfl ?_
    exact v_iretR dX3_stream_83 (by simp only [s_strm, if_neg w1_0, if_neg w1_1, if_neg w1_2, if_neg w1_3, if_pos w1_4] <;> rfl)
  by_cases w1_5 : x = 5
  · refine v_eqi 5 w1_5 ?_
    refine v_tableIn (off := 83) (tgt := 84) dX3_stream_1 (by decide) (by decide) (by decide) (by decide) ?_
    refine v_aload_n dX3_stream_84 rfl 0 rfl ?_
    refine v_get fX3_28 dX3_stream_85 0 rfl rfl ?_
    refine v_get fX3_141 dX3_stream_88 2 rfl rfl ?_
    exact v_iretR dX3_stream_91 (by simp only [s_strm, if_neg w1_0, if_neg w1_1, if_neg w1_2, if_neg w1_3, if_neg w1_4, if_pos w1_5] <;> rfl)
  by_cases w1_6 : x = 6
  · refine v_eqi 6 w1_6 ?_
    refine v_tableIn (off := 91) (tgt := 92) dX3_stream_1 (by decide) (by decide) (by decide) (by decide) ?_
    refine v_aload_n dX3_stream_92 rfl 0 rfl ?_
    refine v_get fX3_28 dX3_stream_93 0 rfl rfl ?_
    refine v_get fX3_144 dX3_stream_96 2 rfl rfl ?_
    exact v_iretR dX3_stream_99 (by simp only [s_strm, if_neg w1_0, if_neg w1_1, if_neg w1_2, if_neg w1_3, if_neg w1_4, if_neg w1_5, if_pos w1_6] <;> rfl)
  refine v_tableOut (tgt := 100) dX3_stream_1 (by have q0 := lv_neT w1_0 (a := 0) (by decide); have q1 := lv_neT w1_1 (a := 1) (by decide); have q2 := lv_neT w1_2 (a := 2) (by decide); have q3 := lv_neT w1_3 (a := 3) (by decide); have q4 := lv_neT w1_4 (a := 4) (by decide); have q5 := lv_neT w1_5 (a := 5) (by decide); have q6 := lv_neT w1_6 (a := 6) (by decide); omega) (by decide) ?_
  refine v_bipush (v := (-100)) dX3_stream_100 (by decide) ?_
  exact v_iretR dX3_stream_102 (by simp only [s_strm, if_neg w1_0, if_neg w1_1, if_neg w1_2, if_neg w1_3, if_neg w1_4, if_neg w1_5, if_neg w1_6] <;> rfl)

theorem nI_of3 {x : Int32} {n : Nat} (h : ¬ x < 0) (h2 : x < nI (min n 60)) : x = nI x.toNatClampNeg ∧ x.toNatClampNeg < min n 60 := by
  obtain ⟨j, hj, rfl⟩ := nI_of h
  rw [nI_clamp hj]
  exact ⟨rfl, (nI_ltI hj (by omega)).mp h2⟩

set_option maxRecDepth 100000 in
set_option maxHeartbeats 4000000 in
theorem c_X3_broken (l : Launch) (G : v_Cfg) (x0 : Nat) (o0 : Nat) (g0 : Nat) (c0 : Nat) (sA : Nat) (ho : Nat) (de : Nat) (lH : Nat) (lS : Nat) (lW : Nat) (lT : Nat) (bn : Nat) (lh : Nat → Int32) (ls : Nat → Int32) (lw : Nat → Int32) (x : Int32) (y : Int32)  : RdI l G yX3_broken cX3_broken 3 (some .int) 1 [.ref x0, .int x, .int y] [(x0, .inr (3, [.ref o0, .ref g0, .ref c0, .ref sA, .int (nI ho), .int (nI de)])), (g0, .inr (1, [.ref lH, .ref lS, .ref lW, .ref lT, .int (nI (min bn 60)), .int (nI bn)])), (lH, .inl (G.2.1, 60, .inl lh)), (lS, .inl (G.2.1, 60, .inl ls)), (lW, .inl (G.2.1, 60, .inl lw))] (s_brk x y (s_in y 0 2) (nI bn) (-4) (lh x.toNatClampNeg) (ls x.toNatClampNeg) (lw x.toNatClampNeg) (nI (min bn 60))) := by
  refine RdI.of (own := RX3) (by decide) rfl (Nat.le_of_ble_eq_true rfl) (fun p e s m below meth c => ?_)
  refine v_iload_n dX3_broken_0 rfl 1 rfl ?_
  refine v_iconst (v := (-1)) dX3_broken_1 (by decide) ?_
  refine v_icmp_ne (tgt := 17) dX3_broken_2 (by decide) (fun h2 => ?_) (fun h2 => ?_)
  · skip
    refine v_iload_n dX3_broken_17 rfl 1 rfl ?_
    refine v_if_lt (tgt := 30) dX3_broken_18 (by decide) (fun h18 => ?_) (fun h18 => ?_)
    · skip
      refine v_iconst (v := (-1)) dX3_broken_30 (by decide) ?_
      exact v_iretR dX3_broken_31 (by simp only [s_brk, if_neg h2, if_pos h18] <;> rfl)
    · skip
      refine v_iload_n dX3_broken_21 rfl 2 rfl ?_
      refine v_iconst (v := 0) dX3_broken_22 (by decide) ?_
      refine v_iconst (v := 2) dX3_broken_23 (by decide) ?_
      refine v_sRd (As := [.int y, .int 0, .int 2]) (rest := []) (c_X3_isWithin l G y 0 2 ) YX3_isWithin mX3_36 dX3_broken_24 [] rfl rfl rfl (Nat.le_of_ble_eq_true rfl) (by decide) (by decide) ?_
      refine v_if_ne (tgt := 32) dX3_broken_27 (by decide) (fun h27 => ?_) (fun h27 => ?_)
      · skip
        refine v_iload_n dX3_broken_32 rfl 1 rfl ?_
        refine v_aload_n dX3_broken_33 rfl 0 rfl ?_
        refine v_get fX3_19 dX3_broken_34 0 rfl rfl ?_
        refine v_get fX3_150 dX3_broken_37 1 rfl rfl ?_
        refine v_icmp_lt (tgt := 46) dX3_broken_40 (by decide) (fun h40 => ?_) (fun h40 => ?_)
        · skip
          refine v_iload_n dX3_broken_46 rfl 2 rfl ?_
          by_cases w47_0 : y = 0
          · refine v_eqi 0 w47_0 ?_
            refine v_lookup (off := 25) (tgt := 72) dX3_broken_47 (by decide) (by decide) (by decide) ?_
            refine v_aload_n dX3_broken_72 rfl 0 rfl ?_
            refine v_get fX3_19 dX3_broken_73 0 rfl rfl ?_
            refine v_get fX3_153 dX3_broken_76 1 rfl rfl ?_
            refine v_iload_n dX3_broken_79 rfl 1 rfl ?_
            refine v_iald dX3_broken_80 2 rfl x.toNatClampNeg ((nI_of3 h18 h40).1) (Nat.lt_of_lt_of_le (nI_of3 h18 h40).2 (Nat.min_le_right _ _)) (by decide) ?_
            exact v_iretR dX3_broken_81 (by simp only [s_brk, if_neg h2, if_neg h18, if_neg h27, if_pos h40, if_pos w47_0] <;> rfl)
          by_cases w47_1 : y = 1
          · refine v_eqi 1 w47_1 ?_
            refine v_lookup (off := 35) (tgt := 82) dX3_broken_47 (by decide) (by decide) (by decide) ?_
            refine v_aload_n dX3_broken_82 rfl 0 rfl ?_
            refine v_get fX3_19 dX3_broken_83 0 rfl rfl ?_
            refine v_get fX3_156 dX3_broken_86 1 rfl rfl ?_
            refine v_iload_n dX3_broken_89 rfl 1 rfl ?_
            refine v_iald dX3_broken_90 3 rfl x.toNatClampNeg ((nI_of3 h18 h40).1) (Nat.lt_of_lt_of_le (nI_of3 h18 h40).2 (Nat.min_le_right _ _)) (by decide) ?_
            exact v_iretR dX3_broken_91 (by simp only [s_brk, if_neg h2, if_neg h18, if_neg h27, if_pos h40, if_neg w47_0, if_pos w47_1] <;> rfl)
          refine v_lookup (off := 45) (tgt := 92) dX3_broken_47 (by decide) (by have q0 := lv_neT w47_0 (a := 0) (by decide); have q1 := lv_neT w47_1 (a := 1) (by decide); simp only [Op.lookupswitch.offset_cons]; rw [if_neg (fun h => q0 h.symm), if_neg (fun h => q1 h.symm)]; rfl) (by decide) ?_
          refine v_aload_n dX3_broken_92 rfl 0 rfl ?_
          refine v_get fX3_19 dX3_broken_93 0 rfl rfl ?_
          refine v_get fX3_159 dX3_broken_96 1 rfl rfl ?_
          refine v_iload_n dX3_broken_99 rfl 1 rfl ?_
          refine v_iald dX3_broken_100 4 rfl x.toNatClampNeg ((nI_of3 h18 h40).1) (Nat.lt_of_lt_of_le (nI_of3 h18 h40).2 (Nat.min_le_right _ _)) (by decide) ?_
          exact v_iretR dX3_broken_101 (by simp only [s_brk, if_neg h2, if_neg h18, if_neg h27, if_pos h40, if_neg w47_0, if_neg w47_1] <;> rfl)
        · skip
          refine v_bipush (v := (-4)) dX3_broken_43 (by decide) ?_
          exact v_iretR dX3_broken_45 (by simp only [s_brk, if_neg h2, if_neg h18, if_neg h27, if_neg h40] <;> rfl)
      · skip
        refine v_iconst (v := (-1)) dX3_broken_30 (by decide) ?_
        exact v_iretR dX3_broken_31 (by simp only [s_brk, if_neg h2, if_neg h18, if_pos h27] <;> rfl)
  · skip
    refine v_iload_n dX3_broken_5 rfl 2 rfl ?_
    refine v_if_ne (tgt := 17) dX3_broken_6 (by decide) (fun h6 => ?_) (fun h6 => ?_)
    · skip
      refine v_iload_n dX3_broken_17 rfl 1 rfl ?_
      refine v_if_lt (tgt := 30) dX3_broken_18 (by decide) (fun h18 => ?_) (fun h18 => absurd (show x < 0 by rw [h2]; decide) h18)
      refine v_iconst (v := (-1)) dX3_broken_30 (by decide) ?_
      exact v_iretR dX3_broken_31 (by simp only [s_brk, if_pos h2, if_neg h6, if_pos h18] <;> rfl)
    · skip
      refine v_aload_n dX3_broken_9 rfl 0 rfl ?_
      refine v_get fX3_19 dX3_broken_10 0 rfl rfl ?_
      refine v_get fX3_147 dX3_broken_13 1 rfl rfl ?_
      exact v_iretR dX3_broken_16 (by simp only [s_brk, if_pos h2, if_pos h6] <;> rfl)

set_option maxRecDepth 100000 in
set_option maxHeartbeats 4000000 in
theorem c_X3_farm (l : Launch) (G : v_Cfg) (x0 : Nat) (o0 : Nat) (g0 : Nat) (c0 : Nat) (sA : Nat) (ho : Nat) (de : Nat) (oFa : Nat) (oWi : Nat) (oPa : Nat) (oQu : Nat) (oSh : Nat) (hk : Nat) (fl : Int32) (ai : Int32) (rn : Int32) (rf : Int32) (rt : Int32) (nv : Int32) (aCa : Nat) (aTk : Nat) (aGr : Nat) (aGo : Nat) (aWe : Nat) (aDr : Nat) (aEa : Nat) (br : Int32) (du : Int32) (mi : Int32) (am : Int32) (mb : Int32) (lH : Nat) (lS : Nat) (lW : Nat) (lT : Nat) (bn : Nat) (gr : Nat → Int32) (we : Nat → Int32) (ea : Nat → Int32) (lt : Nat → Int32) (fn : Nat → Nat) (pn : Nat → Nat) (x : Int32) (y : Int32) (hk6 : hk ≤ 6) (hpn : ∀ h, h < hk → 1 ≤ pn h ∧ pn h ≤ 4) : RdI l G yX3_farm cX3_farm 3 (some .int) 2 [.ref x0, .int x, .int y] [(x0, .inr (3, [.ref o0, .ref g0, .ref c0, .ref sA, .int (nI ho), .int (nI de)])), (o0, .inr (2, [.ref oFa, .ref oWi, .ref oPa, .ref oQu, .ref oSh, .int (nI hk), .int fl, .int ai, .int rn, .int rf, .int rt])), (oFa, .inl (G.2.1, 6, .inl (pN fn))), (oPa, .inl (G.2.1, 6, .inl (pN pn))), (c0, .inr (0, [.ref o0, .int nv, .ref aCa, .ref aTk, .ref aGr, .ref aGo, .ref aWe, .ref aDr, .ref aEa, .int br, .int du, .int mi, .int am, .int mb])), (aGr, .inl (G.2.1, 24, .inl gr)), (aWe, .inl (G.2.1, 24, .inl we)), (aEa, .inl (G.2.1, 24, .inl ea)), (g0, .inr (1, [.ref lH, .ref lS, .ref lW, .ref lT, .int (nI (min bn 60)), .int (nI bn)])), (lT, .inl (G.2.1, 4, .inl lt))] (s_frm (s_in x 0 3) y (s_farmS (pN fn) pn gr x hk) (s_farmS (pN fn) pn ea x hk) (s_farmS (pN fn) pn we x hk) (lt x.toNatClampNeg)) := by
  refine RdI.of (own := RX3) (by decide) rfl (Nat.le_of_ble_eq_true rfl) (fun p e s m below meth c => ?_)
  refine v_iload_n dX3_farm_0 rfl 1 rfl ?_
  refine v_iconst (v := 0) dX3_farm_1 (by decide) ?_
  refine v_iconst (v := 3) dX3_farm_2 (by decide) ?_
  refine v_sRd (As := [.int x, .int 0, .int 3]) (rest := []) (c_X3_isWithin l G x 0 3 ) YX3_isWithin mX3_36 dX3_farm_3 [] rfl rfl rfl (Nat.le_of_ble_eq_true rfl) (by decide) (by decide) ?_
  refine v_if_ne (tgt := 11) dX3_farm_6 (by decide) (fun h6 => ?_) (fun h6 => ?_)
  · skip
    refine v_iload_n dX3_farm_11 rfl 2 rfl ?_
    by_cases w12_0 : y = 0
    · refine v_eqi 0 w12_0 ?_
      refine v_tableIn (off := 32) (tgt := 44) dX3_farm_12 (by decide) (by decide) (by decide) (by decide) ?_
      refine v_aload_n dX3_farm_44 rfl 0 rfl ?_
      refine v_get fX3_28 dX3_farm_45 0 rfl rfl ?_
      refine v_aload_n dX3_farm_48 rfl 0 rfl ?_
      refine v_get fX3_28 dX3_farm_49 0 rfl rfl ?_
      refine v_get fX3_117 dX3_farm_52 4 rfl rfl ?_
      refine v_iload_n dX3_farm_55 rfl 1 rfl ?_
      refine v_vRd (As := [.ref aGr, .int x]) (rest := []) (c_X0_sumOfFarm l G c0 o0 nv aCa aTk aGr aGo aWe aDr aEa br du mi am mb oFa oWi oPa oQu oSh hk fl ai rn rf rt gr (pN fn) pn aGr x hk6 hpn) YX0_sumOfFarm mX3_162 dX3_farm_56 ciX0 4 rfl [4, 5, 1, 2, 3] rfl rfl rfl (Nat.le_of_ble_eq_true rfl) (by decide) (by decide) ?_
      exact v_iretR dX3_farm_59 (by simp only [s_frm, if_neg h6, if_pos w12_0] <;> rfl)
    by_cases w12_1 : y = 1
    · refine v_eqi 1 w12_1 ?_
      refine v_tableIn (off := 48) (tgt := 60) dX3_farm_12 (by decide) (by decide) (by decide) (by decide) ?_
      refine v_aload_n dX3_farm_60 rfl 0 rfl ?_
      refine v_get fX3_28 dX3_farm_61 0 rfl rfl ?_
      refine v_aload_n dX3_farm_64 rfl 0 rfl ?_
      refine v_get fX3_28 dX3_farm_65 0 rfl rfl ?_
      refine v_get fX3_129 dX3_farm_68 4 rfl rfl ?_
      refine v_iload_n dX3_farm_71 rfl 1 rfl ?_
      refine v_vRd (As := [.ref aEa, .int x]) (rest := []) (c_X0_sumOfFarm l G c0 o0 nv aCa aTk aGr aGo aWe aDr aEa br du mi am mb oFa oWi oPa oQu oSh hk fl ai rn rf rt ea (pN fn) pn aEa x hk6 hpn) YX0_sumOfFarm mX3_162 dX3_farm_72 ciX0 4 rfl [4, 7, 1, 2, 3] rfl rfl rfl (Nat.le_of_ble_eq_true rfl) (by decide) (by decide) ?_
      exact v_iretR dX3_farm_75 (by simp only [s_frm, if_neg h6, if_neg w12_0, if_pos w12_1] <;> rfl)
    by_cases w12_2 : y = 2
    · refine v_eqi 2 w12_2 ?_
      refine v_tableIn (off := 64) (tgt := 76) dX3_farm_12 (by decide) (by decide) (by decide) (by decide) ?_
      refine v_aload_n dX3_farm_76 rfl 0 rfl ?_
      refine v_get fX3_28 dX3_farm_77 0 rfl rfl ?_
      refine v_aload_n dX3_farm_80 rfl 0 rfl ?_
      refine v_get fX3_28 dX3_farm_81 0 rfl rfl ?_
      refine v_get fX3_123 dX3_farm_84 4 rfl rfl ?_
      refine v_iload_n dX3_farm_87 rfl 1 rfl ?_
      refine v_vRd (As := [.ref aWe, .int x]) (rest := []) (c_X0_sumOfFarm l G c0 o0 nv aCa aTk aGr aGo aWe aDr aEa br du mi am mb oFa oWi oPa oQu oSh hk fl ai rn rf rt we (pN fn) pn aWe x hk6 hpn) YX0_sumOfFarm mX3_162 dX3_farm_88 ciX0 4 rfl [4, 6, 1, 2, 3] rfl rfl rfl (Nat.le_of_ble_eq_true rfl) (by decide) (by decide) ?_
      exact v_iretR dX3_farm_91 (by simp only [s_frm, if_neg h6, if_neg w12_0, if_neg w12_1, if_pos w12_2] <;> rfl)
    by_cases w12_3 : y = 3
    · refine v_eqi 3 w12_3 ?_
      refine v_tableIn (off := 80) (tgt := 92) dX3_farm_12 (by decide) (by decide) (by decide) (by decide) ?_
      refine v_aload_n dX3_farm_92 rfl 0 rfl ?_
      refine v_get fX3_19 dX3_farm_93 0 rfl rfl ?_
      refine v_get fX3_166 dX3_farm_96 8 rfl rfl ?_
      refine v_iload_n dX3_farm_99 rfl 1 rfl ?_
      refine v_iald dX3_farm_100 9 rfl x.toNatClampNeg ((s_in_ix (a := 0) (b := 3) h6 rfl rfl (by decide) (by decide)).1) (Nat.lt_succ_of_le (s_in_ix (a := 0) (b := 3) h6 rfl rfl (by decide) (by decide)).2.2) (by decide) ?_
      exact v_iretR dX3_farm_101 (by simp only [s_frm, if_neg h6, if_neg w12_0, if_neg w12_1, if_neg w12_2, if_pos w12_3] <;> rfl)
    refine v_tableOut (tgt := 102) dX3_farm_12 (by have q0 := lv_neT w12_0 (a := 0) (by decide); have q1 := lv_neT w12_1 (a := 1) (by decide); have q2 := lv_neT w12_2 (a := 2) (by decide); have q3 := lv_neT w12_3 (a := 3) (by decide); omega) (by decide) ?_
    refine v_iconst (v := (-1)) dX3_farm_102 (by decide) ?_
    exact v_iretR dX3_farm_103 (by simp only [s_frm, if_neg h6, if_neg w12_0, if_neg w12_1, if_neg w12_2, if_neg w12_3] <;> rfl)
  · skip
    refine v_iconst (v := (-1)) dX3_farm_9 (by decide) ?_
    exact v_iretR dX3_farm_10 (by simp only [s_frm, if_pos h6] <;> rfl)

set_option maxRecDepth 100000 in
set_option maxHeartbeats 4000000 in
theorem c_X3_count (l : Launch) (G : v_Cfg) (x0 : Nat) (o0 : Nat) (g0 : Nat) (c0 : Nat) (sA : Nat) (ho : Nat) (de : Nat) (oFa : Nat) (oWi : Nat) (oPa : Nat) (oQu : Nat) (oSh : Nat) (hk : Nat) (fl : Int32) (ai : Int32) (rn : Int32) (rf : Int32) (rt : Int32) (x : Int32)  : RdI l G yX3_count cX3_count 2 (some .int) 0 [.ref x0, .int x] [(x0, .inr (3, [.ref o0, .ref g0, .ref c0, .ref sA, .int (nI ho), .int (nI de)])), (o0, .inr (2, [.ref oFa, .ref oWi, .ref oPa, .ref oQu, .ref oSh, .int (nI hk), .int fl, .int ai, .int rn, .int rf, .int rt]))] (s_cnt x (nI hk) (nI ho) (nI de)) := by
  refine RdI.of (own := RX3) (by decide) rfl (Nat.le_of_ble_eq_true rfl) (fun p e s m below meth c => ?_)
  refine v_iload_n dX3_count_0 rfl 1 rfl ?_
  by_cases w1_0 : x = 0
  · refine v_eqi 0 w1_0 ?_
    refine v_tableIn (off := 27) (tgt := 28) dX3_count_1 (by decide) (by decide) (by decide) (by decide) ?_
    refine v_aload_n dX3_count_28 rfl 0 rfl ?_
    refine v_get fX3_10 dX3_count_29 0 rfl rfl ?_
    refine v_get fX3_40 dX3_count_32 1 rfl rfl ?_
    exact v_iretR dX3_count_35 (by simp only [s_cnt, if_pos w1_0] <;> rfl)
  by_cases w1_1 : x = 1
  · refine v_eqi 1 w1_1 ?_
    refine v_tableIn (off := 35) (tgt := 36) dX3_count_1 (by decide) (by decide) (by decide) (by decide) ?_
    refine v_aload_n dX3_count_36 rfl 0 rfl ?_
    refine v_get fX3_96 dX3_count_37 0 rfl rfl ?_
    exact v_iretR dX3_count_40 (by simp only [s_cnt, if_neg w1_0, if_pos w1_1] <;> rfl)
  by_cases w1_2 : x = 2
  · refine v_eqi 2 w1_2 ?_
    refine v_tableIn (off := 40) (tgt := 41) dX3_count_1 (by decide) (by decide) (by decide) (by decide) ?_
    refine v_aload_n dX3_count_41 rfl 0 rfl ?_
    refine v_get fX3_48 dX3_count_42 0 rfl rfl ?_
    exact v_iretR dX3_count_45 (by simp only [s_cnt, if_neg w1_0, if_neg w1_1, if_pos w1_2] <;> rfl)
  refine v_tableOut (tgt := 46) dX3_count_1 (by have q0 := lv_neT w1_0 (a := 0) (by decide); have q1 := lv_neT w1_1 (a := 1) (by decide); have q2 := lv_neT w1_2 (a := 2) (by decide); omega) (by decide) ?_
  refine v_iconst (v := (-1)) dX3_count_46 (by decide) ?_
  exact v_iretR dX3_count_47 (by simp only [s_cnt, if_neg w1_0, if_neg w1_1, if_neg w1_2] <;> rfl)

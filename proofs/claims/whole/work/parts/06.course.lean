/-! ===== the carrier, the panes, one hour of a course ===== -/
section VX2
variable {p : Program} {l : Launch} {e : Env} {R : Room} {s : State} {m : MethodId} {args : Array Value} {below : List Frame} {meth : Method} {c : Code} {Q : State → Prop} {G : v_Cfg} {I : va_W → Heap → List Loc → Prop} {cc : ByteArray} {own : String} {nL : Nat} {ret : Option FieldType} {ws : va_W} {k n : Nat} {lv lv' : List (Nat × Value)} {pc : Nat} {st : List Value}
theorem v_lveq (h : lv = lv') (kk : V p l e R s m args below meth c Q G I cc own nL ret ws k n lv' pc st) : V p l e R s m args below meth c Q G I cc own nL ret ws k n lv pc st := h ▸ kk
end VX2
theorem v_l1 {α : Type} (f : α → List (Nat × Value)) {a b : α} (h : a = b) : f a = f b := by rw [h]
theorem v_l2 {α β : Type} (f : α → β → List (Nat × Value)) {a a' : α} {b b' : β} (h : a = a') (h2 : b = b') : f a b = f a' b' := by rw [h, h2]
theorem v_l3 {α β γ : Type} (f : α → β → γ → List (Nat × Value)) {a a' : α} {b b' : β} {c c' : γ} (h : a = a') (h2 : b = b') (h3 : c = c') : f a b c = f a' b' c' := by rw [h, h2, h3]
def pN (pn : Nat → Nat) : Nat → Int32 := fun j => nI (pn j)
def s_q (nv h q : Int32) : Int32 := if h = nv then 0 else q
def s_take (nv h w q wi ca : Int32) : Int32 := s_min (w * s_q nv h q / 4) (s_most wi ca)
def s_warm (ai g : Int32) : Int32 := if g ≤ 0 then ai else s_max ai 4
def s_grow (ai g x : Int32) : Int32 := if s_warm ai g ≤ 2 then (if 0 ≤ s_warm ai g then x else s_max 0 (x - 1)) else s_min 5000 (x + s_warm ai g - 2)
def s_wet (g x : Int32) : Int32 := if g ≤ 0 then x else x + 1
def s_bite (gz sh x : Int32) : Int32 := if gz = 0 then 0 else s_min sh x
def s_own (t m q : Int32) : Int32 := if s_mod t m ≤ q then t / m else t / m + 1
def s_sips (t m : Int32) : Nat → Int32
  | 0 => 0
  | p + 1 => s_sips t m p + s_min (s_own t m (nI p)) 3
/-- f, but g from a on, n places -/
def s_rng (a n : Nat) (f g : Nat → Int32) : Nat → Int32 := fun j => if a ≤ j ∧ j < a + n then g j else f j
theorem s_rng_0 (a : Nat) (f g : Nat → Int32) : f = s_rng a 0 f g := by
  funext j; unfold s_rng; rw [if_neg (by omega)]
theorem s_rng_at (a n : Nat) (f g : Nat → Int32) : s_rng a n f g (a + n) = f (a + n) := by
  unfold s_rng; rw [if_neg (by omega)]
theorem s_rng_succ {a n : Nat} {f g : Nat → Int32} {x : Int32} (h : x = g (a + n)) : upd (s_rng a n f g) (a + n) x = s_rng a (n + 1) f g := by
  funext j
  unfold upd s_rng
  by_cases hj : j = a + n
  · rw [if_pos hj, if_pos (by omega), hj, h]
  · rw [if_neg hj]
    by_cases h2 : a ≤ j ∧ j < a + n
    · rw [if_pos h2, if_pos (by omega)]
    · rw [if_neg h2, if_neg (by omega)]
theorem upd_upd (f : Nat → Int32) (k : Nat) (x y : Int32) : upd (upd f k x) k y = upd f k y := by
  funext j; unfold upd; split <;> rfl
def s_gotF (h : Nat) (t m : Int32) : Nat → Int32 := fun j => s_own t m (nI (j - 4 * h))
def s_drF (h : Nat) (t m : Int32) (dr : Nat → Int32) : Nat → Int32 := fun j => dr j + s_min (s_own t m (nI (j - 4 * h))) 3
def s_weF (go we : Nat → Int32) : Nat → Int32 := fun j => s_wet (go j) (we j)
def s_grF (ai gz : Int32) (go sh gr : Nat → Int32) : Nat → Int32 := fun j => s_grow ai (go j) (gr j) - s_bite gz (sh j) (s_grow ai (go j) (gr j))
def s_eaF (ai gz : Int32) (go sh gr ea : Nat → Int32) : Nat → Int32 := fun j => ea j + s_bite gz (sh j) (s_grow ai (go j) (gr j))

set_option maxRecDepth 100000 in
set_option maxHeartbeats 4000000 in
theorem c_X0_takeIn (l : Launch) (G : v_Cfg) (c0 : Nat) (o0 : Nat) (nv : Int32) (aCa : Nat) (aTk : Nat) (aGr : Nat) (aGo : Nat) (aWe : Nat) (aDr : Nat) (aEa : Nat) (br : Int32) (du : Int32) (mi : Int32) (am : Int32) (mb : Int32) (oFa : Nat) (oWi : Nat) (oPa : Nat) (oQu : Nat) (oSh : Nat) (hk : Nat) (fl : Int32) (ai : Int32) (rn : Int32) (rf : Int32) (rt : Int32) (ca : Nat → Int32) (tk : Nat → Int32) (wi : Nat → Int32) (qu : Nat → Int32) (h : Nat) (w : Int32) (hh : h < 6) : MuV l G yX0_takeIn cX0_takeIn 4 none 2 [.ref c0, .int (nI h), .int w] [(c0, .inr (0, [.ref o0, .int nv, .ref aCa, .ref aTk, .ref aGr, .ref aGo, .ref aWe, .ref aDr, .ref aEa, .int br, .int du, .int mi, .int am, .int mb])), (aCa, .inl (G.2.1, 6, .inl ca)), (aTk, .inl (G.2.1, 6, .inl tk)), (o0, .inr (2, [.ref oFa, .ref oWi, .ref oPa, .ref oQu, .ref oSh, .int (nI hk), .int fl, .int ai, .int rn, .int rf, .int rt])), (oWi, .inl (G.2.1, 6, .inl wi)), (oQu, .inl (G.2.1, 6, .inl qu))] [(c0, .inr (0, [.ref o0, .int nv, .ref aCa, .ref aTk, .ref aGr, .ref aGo, .ref aWe, .ref aDr, .ref aEa, .int br, .int du, .int mi, .int am, .int mb])), (aCa, .inl (G.2.1, 6, .inl (upd ca h (ca h + s_take nv (nI h) w (qu h) (wi h) (ca h))))), (aTk, .inl (G.2.1, 6, .inl (upd tk h (s_take nv (nI h) w (qu h) (wi h) (ca h))))), (o0, .inr (2, [.ref oFa, .ref oWi, .ref oPa, .ref oQu, .ref oSh, .int (nI hk), .int fl, .int ai, .int rn, .int rf, .int rt])), (oWi, .inl (G.2.1, 6, .inl wi)), (oQu, .inl (G.2.1, 6, .inl qu))] := by
  refine MuV.of (own := RX0) (by decide) rfl (Nat.le_of_ble_eq_true rfl) (fun p e s m below meth c => ?_)
  refine v_iload_n dX0_takeIn_0 rfl 1 rfl ?_
  refine v_aload_n dX0_takeIn_1 rfl 0 rfl ?_
  refine v_get fX0_37 dX0_takeIn_2 0 rfl rfl ?_
  refine v_icmp_ne (tgt := 12) dX0_takeIn_5 (by decide) (fun h5 => ?_) (fun h5 => ?_)
  · skip
    refine v_aload_n dX0_takeIn_12 rfl 0 rfl ?_
    refine v_get fX0_33 dX0_takeIn_13 0 rfl rfl ?_
    refine v_get fX0_100 dX0_takeIn_16 3 rfl rfl ?_
    refine v_iload_n dX0_takeIn_19 rfl 1 rfl ?_
    refine v_iald dX0_takeIn_20 5 rfl h rfl (by omega) (by decide) ?_
    refine v_istore_n (lv' := [(3, .int (qu h)), (0, .ref c0), (1, .int (nI h)), (2, .int w)]) dX0_takeIn_21 rfl (by decide) rfl ?_
    refine v_aload_n dX0_takeIn_22 rfl 1 rfl ?_
    refine v_get fX0_15 dX0_takeIn_23 0 rfl rfl ?_
    refine v_iload_n dX0_takeIn_26 rfl 2 rfl ?_
    refine v_iload_n dX0_takeIn_27 rfl 3 rfl ?_
    refine v_iload_n dX0_takeIn_28 rfl 0 rfl ?_
    refine v_imul dX0_takeIn_29 ?_
    refine v_iconst (v := 4) dX0_takeIn_30 (by decide) ?_
    refine v_idiv dX0_takeIn_31 (by decide) ?_
    refine v_aload_n dX0_takeIn_32 rfl 1 rfl ?_
    refine v_iload_n dX0_takeIn_33 rfl 2 rfl ?_
    refine v_vRd (As := [.int (nI h)]) (rest := [.int ((w * (qu h)) / 4), .int (nI h), .ref aTk]) (c_X0_mostOf l G c0 o0 nv aCa aTk aGr aGo aWe aDr aEa br du mi am mb oFa oWi oPa oQu oSh hk fl ai rn rf rt ca wi h (by omega)) YX0_mostOf mX0_103 dX0_takeIn_34 ciX0 0 rfl [0, 1, 3, 4] rfl rfl rfl (Nat.le_of_ble_eq_true rfl) (by decide) (by decide) ?_
    refine v_xmin mX0_106 dX0_takeIn_37 ⟨by decide, Nat.le_of_ble_eq_true rfl, by decide, by decide⟩ ?_
    refine v_iast (ws' := [(c0, .inr (0, [.ref o0, .int nv, .ref aCa, .ref aTk, .ref aGr, .ref aGo, .ref aWe, .ref aDr, .ref aEa, .int br, .int du, .int mi, .int am, .int mb])), (aCa, .inl (G.2.1, 6, .inl ca)), (aTk, .inl (G.2.1, 6, .inl (upd tk h (s_min ((w * (qu h)) / 4) (s_most (wi h) (ca h)))))), (o0, .inr (2, [.ref oFa, .ref oWi, .ref oPa, .ref oQu, .ref oSh, .int (nI hk), .int fl, .int ai, .int rn, .int rf, .int rt])), (oWi, .inl (G.2.1, 6, .inl wi)), (oQu, .inl (G.2.1, 6, .inl qu))]) dX0_takeIn_40 2 rfl h rfl (by omega) (by decide) rfl ?_
    refine v_aload_n dX0_takeIn_41 rfl 1 rfl ?_
    refine v_get fX0_9 dX0_takeIn_42 0 rfl rfl ?_
    refine v_iload_n dX0_takeIn_45 rfl 2 rfl ?_
    refine v_dup2 dX0_takeIn_46 rfl rfl ?_
    refine v_iald dX0_takeIn_47 1 rfl h rfl (by omega) (by decide) ?_
    refine v_aload_n dX0_takeIn_48 rfl 1 rfl ?_
    refine v_get fX0_15 dX0_takeIn_49 0 rfl rfl ?_
    refine v_iload_n dX0_takeIn_52 rfl 2 rfl ?_
    refine v_iald dX0_takeIn_53 2 rfl h rfl (by omega) (by decide) ?_
    refine v_eqi (s_min ((w * (qu h)) / 4) (s_most (wi h) (ca h))) pk_us ?_
    refine v_iadd dX0_takeIn_54 ?_
    refine v_iast (ws' := [(c0, .inr (0, [.ref o0, .int nv, .ref aCa, .ref aTk, .ref aGr, .ref aGo, .ref aWe, .ref aDr, .ref aEa, .int br, .int du, .int mi, .int am, .int mb])), (aCa, .inl (G.2.1, 6, .inl (upd ca h ((ca h) + (s_min ((w * (qu h)) / 4) (s_most (wi h) (ca h))))))), (aTk, .inl (G.2.1, 6, .inl (upd tk h (s_min ((w * (qu h)) / 4) (s_most (wi h) (ca h)))))), (o0, .inr (2, [.ref oFa, .ref oWi, .ref oPa, .ref oQu, .ref oSh, .int (nI hk), .int fl, .int ai, .int rn, .int rf, .int rt])), (oWi, .inl (G.2.1, 6, .inl wi)), (oQu, .inl (G.2.1, 6, .inl qu))]) dX0_takeIn_55 1 rfl h rfl (by omega) (by decide) rfl ?_
    exact v_vretM dX0_takeIn_56 (v_w2 (fun (z0 : Nat → Int32) (z1 : Nat → Int32) => ([(c0, .inr (0, [.ref o0, .int nv, .ref aCa, .ref aTk, .ref aGr, .ref aGo, .ref aWe, .ref aDr, .ref aEa, .int br, .int du, .int mi, .int am, .int mb])), (aCa, .inl (G.2.1, 6, .inl z0)), (aTk, .inl (G.2.1, 6, .inl z1)), (o0, .inr (2, [.ref oFa, .ref oWi, .ref oPa, .ref oQu, .ref oSh, .int (nI hk), .int fl, .int ai, .int rn, .int rf, .int rt])), (oWi, .inl (G.2.1, 6, .inl wi)), (oQu, .inl (G.2.1, 6, .inl qu))] : va_W)) (by simp only [s_take, s_q, if_neg h5, u_id]) (by simp only [s_take, s_q, if_neg h5, u_id]))
  · skip
    refine v_iconst (v := 0) dX0_takeIn_8 (by decide) ?_
    refine v_goto (tgt := 21) dX0_takeIn_9 (by decide) ?_
    refine v_istore_n (lv' := [(3, .int 0), (0, .ref c0), (1, .int (nI h)), (2, .int w)]) dX0_takeIn_21 rfl (by decide) rfl ?_
    refine v_aload_n dX0_takeIn_22 rfl 1 rfl ?_
    refine v_get fX0_15 dX0_takeIn_23 0 rfl rfl ?_
    refine v_iload_n dX0_takeIn_26 rfl 2 rfl ?_
    refine v_iload_n dX0_takeIn_27 rfl 3 rfl ?_
    refine v_iload_n dX0_takeIn_28 rfl 0 rfl ?_
    refine v_imul dX0_takeIn_29 ?_
    refine v_iconst (v := 4) dX0_takeIn_30 (by decide) ?_
    refine v_idiv dX0_takeIn_31 (by decide) ?_
    refine v_aload_n dX0_takeIn_32 rfl 1 rfl ?_
    refine v_iload_n dX0_takeIn_33 rfl 2 rfl ?_
    refine v_vRd (As := [.int (nI h)]) (rest := [.int ((w * 0) / 4), .int (nI h), .ref aTk]) (c_X0_mostOf l G c0 o0 nv aCa aTk aGr aGo aWe aDr aEa br du mi am mb oFa oWi oPa oQu oSh hk fl ai rn rf rt ca wi h (by omega)) YX0_mostOf mX0_103 dX0_takeIn_34 ciX0 0 rfl [0, 1, 3, 4] rfl rfl rfl (Nat.le_of_ble_eq_true rfl) (by decide) (by decide) ?_
    refine v_xmin mX0_106 dX0_takeIn_37 ⟨by decide, Nat.le_of_ble_eq_true rfl, by decide, by decide⟩ ?_
    refine v_iast (ws' := [(c0, .inr (0, [.ref o0, .int nv, .ref aCa, .ref aTk, .ref aGr, .ref aGo, .ref aWe, .ref aDr, .ref aEa, .int br, .int du, .int mi, .int am, .int mb])), (aCa, .inl (G.2.1, 6, .inl ca)), (aTk, .inl (G.2.1, 6, .inl (upd tk h (s_min ((w * 0) / 4) (s_most (wi h) (ca h)))))), (o0, .inr (2, [.ref oFa, .ref oWi, .ref oPa, .ref oQu, .ref oSh, .int (nI hk), .int fl, .int ai, .int rn, .int rf, .int rt])), (oWi, .inl (G.2.1, 6, .inl wi)), (oQu, .inl (G.2.1, 6, .inl qu))]) dX0_takeIn_40 2 rfl h rfl (by omega) (by decide) rfl ?_
    refine v_aload_n dX0_takeIn_41 rfl 1 rfl ?_
    refine v_get fX0_9 dX0_takeIn_42 0 rfl rfl ?_
    refine v_iload_n dX0_takeIn_45 rfl 2 rfl ?_
    refine v_dup2 dX0_takeIn_46 rfl rfl ?_
    refine v_iald dX0_takeIn_47 1 rfl h rfl (by omega) (by decide) ?_
    refine v_aload_n dX0_takeIn_48 rfl 1 rfl ?_
    refine v_get fX0_15 dX0_takeIn_49 0 rfl rfl ?_
    refine v_iload_n dX0_takeIn_52 rfl 2 rfl ?_
    refine v_iald dX0_takeIn_53 2 rfl h rfl (by omega) (by decide) ?_
    refine v_eqi (s_min ((w * 0) / 4) (s_most (wi h) (ca h))) pk_us ?_
    refine v_iadd dX0_takeIn_54 ?_
    refine v_iast (ws' := [(c0, .inr (0, [.ref o0, .int nv, .ref aCa, .ref aTk, .ref aGr, .ref aGo, .ref aWe, .ref aDr, .ref aEa, .int br, .int du, .int mi, .int am, .int mb])), (aCa, .inl (G.2.1, 6, .inl (upd ca h ((ca h) + (s_min ((w * 0) / 4) (s_most (wi h) (ca h))))))), (aTk, .inl (G.2.1, 6, .inl (upd tk h (s_min ((w * 0) / 4) (s_most (wi h) (ca h)))))), (o0, .inr (2, [.ref oFa, .ref oWi, .ref oPa, .ref oQu, .ref oSh, .int (nI hk), .int fl, .int ai, .int rn, .int rf, .int rt])), (oWi, .inl (G.2.1, 6, .inl wi)), (oQu, .inl (G.2.1, 6, .inl qu))]) dX0_takeIn_55 1 rfl h rfl (by omega) (by decide) rfl ?_
    exact v_vretM dX0_takeIn_56 (v_w2 (fun (z0 : Nat → Int32) (z1 : Nat → Int32) => ([(c0, .inr (0, [.ref o0, .int nv, .ref aCa, .ref aTk, .ref aGr, .ref aGo, .ref aWe, .ref aDr, .ref aEa, .int br, .int du, .int mi, .int am, .int mb])), (aCa, .inl (G.2.1, 6, .inl z0)), (aTk, .inl (G.2.1, 6, .inl z1)), (o0, .inr (2, [.ref oFa, .ref oWi, .ref oPa, .ref oQu, .ref oSh, .int (nI hk), .int fl, .int ai, .int rn, .int rf, .int rt])), (oWi, .inl (G.2.1, 6, .inl wi)), (oQu, .inl (G.2.1, 6, .inl qu))] : va_W)) (by simp only [s_take, s_q, if_pos h5, u_id]) (by simp only [s_take, s_q, if_pos h5, u_id]))

set_option maxRecDepth 100000 in
set_option maxHeartbeats 4000000 in
theorem c_X0_growGrass (l : Launch) (G : v_Cfg) (c0 : Nat) (o0 : Nat) (nv : Int32) (aCa : Nat) (aTk : Nat) (aGr : Nat) (aGo : Nat) (aWe : Nat) (aDr : Nat) (aEa : Nat) (br : Int32) (du : Int32) (mi : Int32) (am : Int32) (mb : Int32) (oFa : Nat) (oWi : Nat) (oPa : Nat) (oQu : Nat) (oSh : Nat) (hk : Nat) (fl : Int32) (ai : Int32) (rn : Int32) (rf : Int32) (rt : Int32) (gr : Nat → Int32) (go : Nat → Int32) (we : Nat → Int32) (j : Nat) (hj : j < 24) : MuV l G yX0_growGrass cX0_growGrass 4 none 1 [.ref c0, .int (nI j)] [(c0, .inr (0, [.ref o0, .int nv, .ref aCa, .ref aTk, .ref aGr, .ref aGo, .ref aWe, .ref aDr, .ref aEa, .int br, .int du, .int mi, .int am, .int mb])), (aGr, .inl (G.2.1, 24, .inl gr)), (aGo, .inl (G.2.1, 24, .inl go)), (aWe, .inl (G.2.1, 24, .inl we)), (o0, .inr (2, [.ref oFa, .ref oWi, .ref oPa, .ref oQu, .ref oSh, .int (nI hk), .int fl, .int ai, .int rn, .int rf, .int rt]))] [(c0, .inr (0, [.ref o0, .int nv, .ref aCa, .ref aTk, .ref aGr, .ref aGo, .ref aWe, .ref aDr, .ref aEa, .int br, .int du, .int mi, .int am, .int mb])), (aGr, .inl (G.2.1, 24, .inl (upd gr j (s_grow ai (go j) (gr j))))), (aGo, .inl (G.2.1, 24, .inl go)), (aWe, .inl (G.2.1, 24, .inl (upd we j (s_wet (go j) (we j))))), (o0, .inr (2, [.ref oFa, .ref oWi, .ref oPa, .ref oQu, .ref oSh, .int (nI hk), .int fl, .int ai, .int rn, .int rf, .int rt]))] := by
  refine MuV.of (own := RX0) (by decide) rfl (Nat.le_of_ble_eq_true rfl) (fun p e s m below meth c => ?_)
  refine v_aload_n dX0_growGrass_0 rfl 0 rfl ?_
  refine v_get fX0_21 dX0_growGrass_1 0 rfl rfl ?_
  refine v_iload_n dX0_growGrass_4 rfl 1 rfl ?_
  refine v_iald dX0_growGrass_5 2 rfl j rfl (by omega) (by decide) ?_
  refine v_if_le (tgt := 13) dX0_growGrass_6 (by decide) (fun h6 => ?_) (fun h6 => ?_)
  · skip
    refine v_iconst (v := 0) dX0_growGrass_13 (by decide) ?_
    refine v_istore_n (lv' := [(2, .int 0), (0, .ref c0), (1, .int (nI j))]) dX0_growGrass_14 rfl (by decide) rfl ?_
    refine v_iload_n dX0_growGrass_15 rfl 0 rfl ?_
    refine v_if_eq (tgt := 29) dX0_growGrass_16 (by decide) (fun h16 => ?_) (fun h16 => absurd h16 (by decide))
    refine v_iload_n dX0_growGrass_29 rfl 0 rfl ?_
    refine v_if_eq (tgt := 47) dX0_growGrass_30 (by decide) (fun h30 => ?_) (fun h30 => absurd h30 (by decide))
    refine v_aload_n dX0_growGrass_47 rfl 1 rfl ?_
    refine v_get fX0_33 dX0_growGrass_48 0 rfl rfl ?_
    refine v_get fX0_122 dX0_growGrass_51 4 rfl rfl ?_
    refine v_eqi (s_warm ai (go j)) (by simp only [s_warm, if_pos h6]) ?_
    refine v_istore_n (lv' := [(3, .int (s_warm ai (go j))), (2, .int 0), (0, .ref c0), (1, .int (nI j))]) dX0_growGrass_54 rfl (by decide) rfl ?_
    refine v_iload_n dX0_growGrass_55 rfl 0 rfl ?_
    refine v_iconst (v := 2) dX0_growGrass_56 (by decide) ?_
    refine v_icmp_le (tgt := 85) dX0_growGrass_57 (by decide) (fun h57 => ?_) (fun h57 => ?_)
    · skip
      refine v_iload_n dX0_growGrass_85 rfl 0 rfl ?_
      refine v_if_ge (tgt := 107) dX0_growGrass_86 (by decide) (fun h86 => ?_) (fun h86 => ?_)
      · skip
        exact v_vretM dX0_growGrass_107 (v_w2 (fun (z0 : Nat → Int32) (z1 : Nat → Int32) => ([(c0, .inr (0, [.ref o0, .int nv, .ref aCa, .ref aTk, .ref aGr, .ref aGo, .ref aWe, .ref aDr, .ref aEa, .int br, .int du, .int mi, .int am, .int mb])), (aGr, .inl (G.2.1, 24, .inl z0)), (aGo, .inl (G.2.1, 24, .inl go)), (aWe, .inl (G.2.1, 24, .inl z1)), (o0, .inr (2, [.ref oFa, .ref oWi, .ref oPa, .ref oQu, .ref oSh, .int (nI hk), .int fl, .int ai, .int rn, .int rf, .int rt]))] : va_W)) (by simp only [s_grow, s_wet, if_pos h6, if_pos h57, if_pos h86, u_id]) (by simp only [s_grow, s_wet, if_pos h6, if_pos h57, if_pos h86, u_id]))
      · skip
        refine v_aload_n dX0_growGrass_89 rfl 2 rfl ?_
        refine v_get fX0_18 dX0_growGrass_90 0 rfl rfl ?_
        refine v_iload_n dX0_growGrass_93 rfl 3 rfl ?_
        refine v_iconst (v := 0) dX0_growGrass_94 (by decide) ?_
        refine v_aload_n dX0_growGrass_95 rfl 2 rfl ?_
        refine v_get fX0_18 dX0_growGrass_96 0 rfl rfl ?_
        refine v_iload_n dX0_growGrass_99 rfl 3 rfl ?_
        refine v_iald dX0_growGrass_100 1 rfl j rfl (by omega) (by decide) ?_
        refine v_iconst (v := 1) dX0_growGrass_101 (by decide) ?_
        refine v_isub dX0_growGrass_102 ?_
        refine v_xmax mX0_50 dX0_growGrass_103 ⟨by decide, Nat.le_of_ble_eq_true rfl, by decide, by decide⟩ ?_
        refine v_iast (ws' := [(c0, .inr (0, [.ref o0, .int nv, .ref aCa, .ref aTk, .ref aGr, .ref aGo, .ref aWe, .ref aDr, .ref aEa, .int br, .int du, .int mi, .int am, .int mb])), (aGr, .inl (G.2.1, 24, .inl (upd gr j (s_max 0 ((gr j) - 1))))), (aGo, .inl (G.2.1, 24, .inl go)), (aWe, .inl (G.2.1, 24, .inl we)), (o0, .inr (2, [.ref oFa, .ref oWi, .ref oPa, .ref oQu, .ref oSh, .int (nI hk), .int fl, .int ai, .int rn, .int rf, .int rt]))]) dX0_growGrass_106 1 rfl j rfl (by omega) (by decide) rfl ?_
        exact v_vretM dX0_growGrass_107 (v_w2 (fun (z0 : Nat → Int32) (z1 : Nat → Int32) => ([(c0, .inr (0, [.ref o0, .int nv, .ref aCa, .ref aTk, .ref aGr, .ref aGo, .ref aWe, .ref aDr, .ref aEa, .int br, .int du, .int mi, .int am, .int mb])), (aGr, .inl (G.2.1, 24, .inl z0)), (aGo, .inl (G.2.1, 24, .inl go)), (aWe, .inl (G.2.1, 24, .inl z1)), (o0, .inr (2, [.ref oFa, .ref oWi, .ref oPa, .ref oQu, .ref oSh, .int (nI hk), .int fl, .int ai, .int rn, .int rf, .int rt]))] : va_W)) (by simp only [s_grow, s_wet, if_pos h6, if_pos h57, if_neg h86, u_id]) (by simp only [s_grow, s_wet, if_pos h6, if_pos h57, if_neg h86, u_id]))
    · skip
      refine v_aload_n dX0_growGrass_60 rfl 2 rfl ?_
      refine v_get fX0_18 dX0_growGrass_61 0 rfl rfl ?_
      refine v_iload_n dX0_growGrass_64 rfl 3 rfl ?_
      refine v_sipush (v := 5000) dX0_growGrass_65 (by decide) ?_
      refine v_aload_n dX0_growGrass_68 rfl 2 rfl ?_
      refine v_get fX0_18 dX0_growGrass_69 0 rfl rfl ?_
      refine v_iload_n dX0_growGrass_72 rfl 3 rfl ?_
      refine v_iald dX0_growGrass_73 1 rfl j rfl (by omega) (by decide) ?_
      refine v_iload_n dX0_growGrass_74 rfl 0 rfl ?_
      refine v_iadd dX0_growGrass_75 ?_
      refine v_iconst (v := 2) dX0_growGrass_76 (by decide) ?_
      refine v_isub dX0_growGrass_77 ?_
      refine v_xmin mX0_106 dX0_growGrass_78 ⟨by decide, Nat.le_of_ble_eq_true rfl, by decide, by decide⟩ ?_
      refine v_iast (ws' := [(c0, .inr (0, [.ref o0, .int nv, .ref aCa, .ref aTk, .ref aGr, .ref aGo, .ref aWe, .ref aDr, .ref aEa, .int br, .int du, .int mi, .int am, .int mb])), (aGr, .inl (G.2.1, 24, .inl (upd gr j (s_min 5000 (((gr j) + (s_warm ai (go j))) - 2))))), (aGo, .inl (G.2.1, 24, .inl go)), (aWe, .inl (G.2.1, 24, .inl we)), (o0, .inr (2, [.ref oFa, .ref oWi, .ref oPa, .ref oQu, .ref oSh, .int (nI hk), .int fl, .int ai, .int rn, .int rf, .int rt]))]) dX0_growGrass_81 1 rfl j rfl (by omega) (by decide) rfl ?_
      refine v_goto (tgt := 107) dX0_growGrass_82 (by decide) ?_
      exact v_vretM dX0_growGrass_107 (v_w2 (fun (z0 : Nat → Int32) (z1 : Nat → Int32) => ([(c0, .inr (0, [.ref o0, .int nv, .ref aCa, .ref aTk, .ref aGr, .ref aGo, .ref aWe, .ref aDr, .ref aEa, .int br, .int du, .int mi, .int am, .int mb])), (aGr, .inl (G.2.1, 24, .inl z0)), (aGo, .inl (G.2.1, 24, .inl go)), (aWe, .inl (G.2.1, 24, .inl z1)), (o0, .inr (2, [.ref oFa, .ref oWi, .ref oPa, .ref oQu, .ref oSh, .int (nI hk), .int fl, .int ai, .int rn, .int rf, .int rt]))] : va_W)) (by simp only [s_grow, s_wet, if_pos h6, if_neg h57, u_id]) (by simp only [s_grow, s_wet, if_pos h6, if_neg h57, u_id]))
  · skip
    refine v_iconst (v := 1) dX0_growGrass_9 (by decide) ?_
    refine v_goto (tgt := 14) dX0_growGrass_10 (by decide) ?_
    refine v_istore_n (lv' := [(2, .int 1), (0, .ref c0), (1, .int (nI j))]) dX0_growGrass_14 rfl (by decide) rfl ?_
    refine v_iload_n dX0_growGrass_15 rfl 0 rfl ?_
    refine v_if_eq (tgt := 29) dX0_growGrass_16 (by decide) (fun h16 => absurd h16 (by decide)) (fun h16 => ?_)
    refine v_aload_n dX0_growGrass_19 rfl 1 rfl ?_
    refine v_get fX0_24 dX0_growGrass_20 0 rfl rfl ?_
    refine v_iload_n dX0_growGrass_23 rfl 2 rfl ?_
    refine v_dup2 dX0_growGrass_24 rfl rfl ?_
    refine v_iald dX0_growGrass_25 3 rfl j rfl (by omega) (by decide) ?_
    refine v_iconst (v := 1) dX0_growGrass_26 (by decide) ?_
    refine v_iadd dX0_growGrass_27 ?_
    refine v_iast (ws' := [(c0, .inr (0, [.ref o0, .int nv, .ref aCa, .ref aTk, .ref aGr, .ref aGo, .ref aWe, .ref aDr, .ref aEa, .int br, .int du, .int mi, .int am, .int mb])), (aGr, .inl (G.2.1, 24, .inl gr)), (aGo, .inl (G.2.1, 24, .inl go)), (aWe, .inl (G.2.1, 24, .inl (upd we j ((we j) + 1)))), (o0, .inr (2, [.ref oFa, .ref oWi, .ref oPa, .ref oQu, .ref oSh, .int (nI hk), .int fl, .int ai, .int rn, .int rf, .int rt]))]) dX0_growGrass_28 3 rfl j rfl (by omega) (by decide) rfl ?_
    refine v_iload_n dX0_growGrass_29 rfl 0 rfl ?_
    refine v_if_eq (tgt := 47) dX0_growGrass_30 (by decide) (fun h30 => absurd h30 (by decide)) (fun h30 => ?_)
    refine v_aload_n dX0_growGrass_33 rfl 1 rfl ?_
    refine v_get fX0_33 dX0_growGrass_34 0 rfl rfl ?_
    refine v_get fX0_122 dX0_growGrass_37 4 rfl rfl ?_
    refine v_iconst (v := 4) dX0_growGrass_40 (by decide) ?_
    refine v_xmax mX0_50 dX0_growGrass_41 ⟨by decide, Nat.le_of_ble_eq_true rfl, by decide, by decide⟩ ?_
    refine v_goto (tgt := 54) dX0_growGrass_44 (by decide) ?_
    refine v_eqi (s_warm ai (go j)) (by simp only [s_warm, if_neg h6]) ?_
    refine v_istore_n (lv' := [(3, .int (s_warm ai (go j))), (2, .int 1), (0, .ref c0), (1, .int (nI j))]) dX0_growGrass_54 rfl (by decide) rfl ?_
    refine v_iload_n dX0_growGrass_55 rfl 0 rfl ?_
    refine v_iconst (v := 2) dX0_growGrass_56 (by decide) ?_
    refine v_icmp_le (tgt := 85) dX0_growGrass_57 (by decide) (fun h57 => ?_) (fun h57 => ?_)
    · skip
      refine v_iload_n dX0_growGrass_85 rfl 0 rfl ?_
      refine v_if_ge (tgt := 107) dX0_growGrass_86 (by decide) (fun h86 => ?_) (fun h86 => ?_)
      · skip
        exact v_vretM dX0_growGrass_107 (v_w2 (fun (z0 : Nat → Int32) (z1 : Nat → Int32) => ([(c0, .inr (0, [.ref o0, .int nv, .ref aCa, .ref aTk, .ref aGr, .ref aGo, .ref aWe, .ref aDr, .ref aEa, .int br, .int du, .int mi, .int am, .int mb])), (aGr, .inl (G.2.1, 24, .inl z0)), (aGo, .inl (G.2.1, 24, .inl go)), (aWe, .inl (G.2.1, 24, .inl z1)), (o0, .inr (2, [.ref oFa, .ref oWi, .ref oPa, .ref oQu, .ref oSh, .int (nI hk), .int fl, .int ai, .int rn, .int rf, .int rt]))] : va_W)) (by simp only [s_grow, s_wet, if_neg h6, if_pos h57, if_pos h86, u_id]) (by simp only [s_grow, s_wet, if_neg h6, if_pos h57, if_pos h86, u_id]))
      · skip
        refine v_aload_n dX0_growGrass_89 rfl 2 rfl ?_
        refine v_get fX0_18 dX0_growGrass_90 0 rfl rfl ?_
        refine v_iload_n dX0_growGrass_93 rfl 3 rfl ?_
        refine v_iconst (v := 0) dX0_growGrass_94 (by decide) ?_
        refine v_aload_n dX0_growGrass_95 rfl 2 rfl ?_
        refine v_get fX0_18 dX0_growGrass_96 0 rfl rfl ?_
        refine v_iload_n dX0_growGrass_99 rfl 3 rfl ?_
        refine v_iald dX0_growGrass_100 1 rfl j rfl (by omega) (by decide) ?_
        refine v_iconst (v := 1) dX0_growGrass_101 (by decide) ?_
        refine v_isub dX0_growGrass_102 ?_
        refine v_xmax mX0_50 dX0_growGrass_103 ⟨by decide, Nat.le_of_ble_eq_true rfl, by decide, by decide⟩ ?_
        refine v_iast (ws' := [(c0, .inr (0, [.ref o0, .int nv, .ref aCa, .ref aTk, .ref aGr, .ref aGo, .ref aWe, .ref aDr, .ref aEa, .int br, .int du, .int mi, .int am, .int mb])), (aGr, .inl (G.2.1, 24, .inl (upd gr j (s_max 0 ((gr j) - 1))))), (aGo, .inl (G.2.1, 24, .inl go)), (aWe, .inl (G.2.1, 24, .inl (upd we j ((we j) + 1)))), (o0, .inr (2, [.ref oFa, .ref oWi, .ref oPa, .ref oQu, .ref oSh, .int (nI hk), .int fl, .int ai, .int rn, .int rf, .int rt]))]) dX0_growGrass_106 1 rfl j rfl (by omega) (by decide) rfl ?_
        exact v_vretM dX0_growGrass_107 (v_w2 (fun (z0 : Nat → Int32) (z1 : Nat → Int32) => ([(c0, .inr (0, [.ref o0, .int nv, .ref aCa, .ref aTk, .ref aGr, .ref aGo, .ref aWe, .ref aDr, .ref aEa, .int br, .int du, .int mi, .int am, .int mb])), (aGr, .inl (G.2.1, 24, .inl z0)), (aGo, .inl (G.2.1, 24, .inl go)), (aWe, .inl (G.2.1, 24, .inl z1)), (o0, .inr (2, [.ref oFa, .ref oWi, .ref oPa, .ref oQu, .ref oSh, .int (nI hk), .int fl, .int ai, .int rn, .int rf, .int rt]))] : va_W)) (by simp only [s_grow, s_wet, if_neg h6, if_pos h57, if_neg h86, u_id]) (by simp only [s_grow, s_wet, if_neg h6, if_pos h57, if_neg h86, u_id]))
    · skip
      refine v_aload_n dX0_growGrass_60 rfl 2 rfl ?_
      refine v_get fX0_18 dX0_growGrass_61 0 rfl rfl ?_
      refine v_iload_n dX0_growGrass_64 rfl 3 rfl ?_
      refine v_sipush (v := 5000) dX0_growGrass_65 (by decide) ?_
      refine v_aload_n dX0_growGrass_68 rfl 2 rfl ?_
      refine v_get fX0_18 dX0_growGrass_69 0 rfl rfl ?_
      refine v_iload_n dX0_growGrass_72 rfl 3 rfl ?_
      refine v_iald dX0_growGrass_73 1 rfl j rfl (by omega) (by decide) ?_
      refine v_iload_n dX0_growGrass_74 rfl 0 rfl ?_
      refine v_iadd dX0_growGrass_75 ?_
      refine v_iconst (v := 2) dX0_growGrass_76 (by decide) ?_
      refine v_isub dX0_growGrass_77 ?_
      refine v_xmin mX0_106 dX0_growGrass_78 ⟨by decide, Nat.le_of_ble_eq_true rfl, by decide, by decide⟩ ?_
      refine v_iast (ws' := [(c0, .inr (0, [.ref o0, .int nv, .ref aCa, .ref aTk, .ref aGr, .ref aGo, .ref aWe, .ref aDr, .ref aEa, .int br, .int du, .int mi, .int am, .int mb])), (aGr, .inl (G.2.1, 24, .inl (upd gr j (s_min 5000 (((gr j) + (s_warm ai (go j))) - 2))))), (aGo, .inl (G.2.1, 24, .inl go)), (aWe, .inl (G.2.1, 24, .inl (upd we j ((we j) + 1)))), (o0, .inr (2, [.ref oFa, .ref oWi, .ref oPa, .ref oQu, .ref oSh, .int (nI hk), .int fl, .int ai, .int rn, .int rf, .int rt]))]) dX0_growGrass_81 1 rfl j rfl (by omega) (by decide) rfl ?_
      refine v_goto (tgt := 107) dX0_growGrass_82 (by decide) ?_
      exact v_vretM dX0_growGrass_107 (v_w2 (fun (z0 : Nat → Int32) (z1 : Nat → Int32) => ([(c0, .inr (0, [.ref o0, .int nv, .ref aCa, .ref aTk, .ref aGr, .ref aGo, .ref aWe, .ref aDr, .ref aEa, .int br, .int du, .int mi, .int am, .int mb])), (aGr, .inl (G.2.1, 24, .inl z0)), (aGo, .inl (G.2.1, 24, .inl go)), (aWe, .inl (G.2.1, 24, .inl z1)), (o0, .inr (2, [.ref oFa, .ref oWi, .ref oPa, .ref oQu, .ref oSh, .int (nI hk), .int fl, .int ai, .int rn, .int rf, .int rt]))] : va_W)) (by simp only [s_grow, s_wet, if_neg h6, if_neg h57, u_id]) (by simp only [s_grow, s_wet, if_neg h6, if_neg h57, u_id]))

set_option maxRecDepth 100000 in
set_option maxHeartbeats 4000000 in
theorem c_X0_grazePane (l : Launch) (G : v_Cfg) (c0 : Nat) (o0 : Nat) (nv : Int32) (aCa : Nat) (aTk : Nat) (aGr : Nat) (aGo : Nat) (aWe : Nat) (aDr : Nat) (aEa : Nat) (br : Int32) (du : Int32) (mi : Int32) (am : Int32) (mb : Int32) (oFa : Nat) (oWi : Nat) (oPa : Nat) (oQu : Nat) (oSh : Nat) (hk : Nat) (fl : Int32) (ai : Int32) (rn : Int32) (rf : Int32) (rt : Int32) (gr : Nat → Int32) (ea : Nat → Int32) (sh : Nat → Int32) (j : Nat) (hj : j < 24) : MuV l G yX0_grazePane cX0_grazePane 3 none 1 [.ref c0, .int (nI j)] [(c0, .inr (0, [.ref o0, .int nv, .ref aCa, .ref aTk, .ref aGr, .ref aGo, .ref aWe, .ref aDr, .ref aEa, .int br, .int du, .int mi, .int am, .int mb])), (aGr, .inl (G.2.1, 24, .inl gr)), (aEa, .inl (G.2.1, 24, .inl ea)), (o0, .inr (2, [.ref oFa, .ref oWi, .ref oPa, .ref oQu, .ref oSh, .int (nI hk), .int fl, .int ai, .int rn, .int rf, .int rt])), (oSh, .inl (G.2.1, 24, .inl sh))] [(c0, .inr (0, [.ref o0, .int nv, .ref aCa, .ref aTk, .ref aGr, .ref aGo, .ref aWe, .ref aDr, .ref aEa, .int br, .int du, .int mi, .int am, .int mb])), (aGr, .inl (G.2.1, 24, .inl (upd gr j (gr j - s_min (sh j) (gr j))))), (aEa, .inl (G.2.1, 24, .inl (upd ea j (ea j + s_min (sh j) (gr j))))), (o0, .inr (2, [.ref oFa, .ref oWi, .ref oPa, .ref oQu, .ref oSh, .int (nI hk), .int fl, .int ai, .int rn, .int rf, .int rt])), (oSh, .inl (G.2.1, 24, .inl sh))] := by
  refine MuV.of (own := RX0) (by decide) rfl (Nat.le_of_ble_eq_true rfl) (fun p e s m below meth c => ?_)
  refine v_aload_n dX0_grazePane_0 rfl 0 rfl ?_
  refine v_get fX0_33 dX0_grazePane_1 0 rfl rfl ?_
  refine v_get fX0_125 dX0_grazePane_4 3 rfl rfl ?_
  refine v_iload_n dX0_grazePane_7 rfl 1 rfl ?_
  refine v_iald dX0_grazePane_8 4 rfl j rfl (by omega) (by decide) ?_
  refine v_aload_n dX0_grazePane_9 rfl 0 rfl ?_
  refine v_get fX0_18 dX0_grazePane_10 0 rfl rfl ?_
  refine v_iload_n dX0_grazePane_13 rfl 1 rfl ?_
  refine v_iald dX0_grazePane_14 1 rfl j rfl (by omega) (by decide) ?_
  refine v_xmin mX0_106 dX0_grazePane_15 ⟨by decide, Nat.le_of_ble_eq_true rfl, by decide, by decide⟩ ?_
  refine v_istore_n (lv' := [(2, .int (s_min (sh j) (gr j))), (0, .ref c0), (1, .int (nI j))]) dX0_grazePane_18 rfl (by decide) rfl ?_
  refine v_aload_n dX0_grazePane_19 rfl 1 rfl ?_
  refine v_get fX0_18 dX0_grazePane_20 0 rfl rfl ?_
  refine v_iload_n dX0_grazePane_23 rfl 2 rfl ?_
  refine v_dup2 dX0_grazePane_24 rfl rfl ?_
  refine v_iald dX0_grazePane_25 1 rfl j rfl (by omega) (by decide) ?_
  refine v_iload_n dX0_grazePane_26 rfl 0 rfl ?_
  refine v_isub dX0_grazePane_27 ?_
  refine v_iast (ws' := [(c0, .inr (0, [.ref o0, .int nv, .ref aCa, .ref aTk, .ref aGr, .ref aGo, .ref aWe, .ref aDr, .ref aEa, .int br, .int du, .int mi, .int am, .int mb])), (aGr, .inl (G.2.1, 24, .inl (upd gr j ((gr j) - (s_min (sh j) (gr j)))))), (aEa, .inl (G.2.1, 24, .inl ea)), (o0, .inr (2, [.ref oFa, .ref oWi, .ref oPa, .ref oQu, .ref oSh, .int (nI hk), .int fl, .int ai, .int rn, .int rf, .int rt])), (oSh, .inl (G.2.1, 24, .inl sh))]) dX0_grazePane_28 1 rfl j rfl (by omega) (by decide) rfl ?_
  refine v_aload_n dX0_grazePane_29 rfl 1 rfl ?_
  refine v_get fX0_30 dX0_grazePane_30 0 rfl rfl ?_
  refine v_iload_n dX0_grazePane_33 rfl 2 rfl ?_
  refine v_dup2 dX0_grazePane_34 rfl rfl ?_
  refine v_iald dX0_grazePane_35 2 rfl j rfl (by omega) (by decide) ?_
  refine v_iload_n dX0_grazePane_36 rfl 0 rfl ?_
  refine v_iadd dX0_grazePane_37 ?_
  refine v_iast (ws' := [(c0, .inr (0, [.ref o0, .int nv, .ref aCa, .ref aTk, .ref aGr, .ref aGo, .ref aWe, .ref aDr, .ref aEa, .int br, .int du, .int mi, .int am, .int mb])), (aGr, .inl (G.2.1, 24, .inl (upd gr j ((gr j) - (s_min (sh j) (gr j)))))), (aEa, .inl (G.2.1, 24, .inl (upd ea j ((ea j) + (s_min (sh j) (gr j)))))), (o0, .inr (2, [.ref oFa, .ref oWi, .ref oPa, .ref oQu, .ref oSh, .int (nI hk), .int fl, .int ai, .int rn, .int rf, .int rt])), (oSh, .inl (G.2.1, 24, .inl sh))]) dX0_grazePane_38 2 rfl j rfl (by omega) (by decide) rfl ?_
  exact v_vretM dX0_grazePane_39 rfl

set_option maxRecDepth 100000 in
set_option maxHeartbeats 4000000 in
theorem c_X0_soakPanes (l : Launch) (G : v_Cfg) (c0 : Nat) (o0 : Nat) (nv : Int32) (aCa : Nat) (aTk : Nat) (aGr : Nat) (aGo : Nat) (aWe : Nat) (aDr : Nat) (aEa : Nat) (br : Int32) (du : Int32) (mi : Int32) (am : Int32) (mb : Int32) (oFa : Nat) (oWi : Nat) (oPa : Nat) (oQu : Nat) (oSh : Nat) (hk : Nat) (fl : Int32) (ai : Int32) (rn : Int32) (rf : Int32) (rt : Int32) (tk : Nat → Int32) (go : Nat → Int32) (dr : Nat → Int32) (pn : Nat → Nat) (h : Nat) (hh : h < 6) (hn1 : 1 ≤ pn h) (hn4 : pn h ≤ 4) : MuI l G yX0_soakPanes cX0_soakPanes 9 (some .int) 1 [.ref c0, .int (nI h)] [(c0, .inr (0, [.ref o0, .int nv, .ref aCa, .ref aTk, .ref aGr, .ref aGo, .ref aWe, .ref aDr, .ref aEa, .int br, .int du, .int mi, .int am, .int mb])), (aTk, .inl (G.2.1, 6, .inl tk)), (aGo, .inl (G.2.1, 24, .inl go)), (aDr, .inl (G.2.1, 24, .inl dr)), (o0, .inr (2, [.ref oFa, .ref oWi, .ref oPa, .ref oQu, .ref oSh, .int (nI hk), .int fl, .int ai, .int rn, .int rf, .int rt])), (oPa, .inl (G.2.1, 6, .inl (pN pn)))] [(c0, .inr (0, [.ref o0, .int nv, .ref aCa, .ref aTk, .ref aGr, .ref aGo, .ref aWe, .ref aDr, .ref aEa, .int br, .int (du + s_sips (tk h) (nI (pn h)) (pn h)), .int mi, .int am, .int mb])), (aTk, .inl (G.2.1, 6, .inl tk)), (aGo, .inl (G.2.1, 24, .inl (s_rng (4 * h) (pn h) go (s_gotF h (tk h) (nI (pn h)))))), (aDr, .inl (G.2.1, 24, .inl (s_rng (4 * h) (pn h) dr (s_drF h (tk h) (nI (pn h)) dr)))), (o0, .inr (2, [.ref oFa, .ref oWi, .ref oPa, .ref oQu, .ref oSh, .int (nI hk), .int fl, .int ai, .int rn, .int rf, .int rt])), (oPa, .inl (G.2.1, 6, .inl (pN pn)))] (s_sips (tk h) (nI (pn h)) (pn h)) := by
  refine MuI.of (own := RX0) (by decide) rfl (Nat.le_of_ble_eq_true rfl) (fun p e s m below meth c => ?_)
  refine v_aload_n dX0_soakPanes_0 rfl 0 rfl ?_
  refine v_get fX0_33 dX0_soakPanes_1 0 rfl rfl ?_
  refine v_get fX0_94 dX0_soakPanes_4 4 rfl rfl ?_
  refine v_iload_n dX0_soakPanes_7 rfl 1 rfl ?_
  refine v_iald dX0_soakPanes_8 5 rfl h rfl (by omega) (by decide) ?_
  refine v_eqi (nI (pn h)) rfl ?_
  refine v_istore_n (lv' := [(2, .int (nI (pn h))), (0, .ref c0), (1, .int (nI h))]) dX0_soakPanes_9 rfl (by decide) rfl ?_
  refine v_iload_n dX0_soakPanes_10 rfl 0 rfl ?_
  refine v_iconst (v := 1) dX0_soakPanes_11 (by decide) ?_
  refine v_icmp_ge (tgt := 17) dX0_soakPanes_12 (by decide) (fun h12 => ?_) (fun h12 => absurd (nI_le hn1 (by omega)) h12)
  refine v_aload_n dX0_soakPanes_17 rfl 1 rfl ?_
  refine v_get fX0_15 dX0_soakPanes_18 0 rfl rfl ?_
  refine v_iload_n dX0_soakPanes_21 rfl 2 rfl ?_
  refine v_iald dX0_soakPanes_22 1 rfl h rfl (by omega) (by decide) ?_
  refine v_iload_n dX0_soakPanes_23 rfl 0 rfl ?_
  refine v_idiv dX0_soakPanes_24 (nI_ne0 (by omega) (by omega)) ?_
  refine v_istore_n (lv' := [(3, .int ((tk h) / (nI (pn h)))), (2, .int (nI (pn h))), (0, .ref c0), (1, .int (nI h))]) dX0_soakPanes_25 rfl (by decide) rfl ?_
  refine v_aload_n dX0_soakPanes_26 rfl 2 rfl ?_
  refine v_get fX0_15 dX0_soakPanes_27 0 rfl rfl ?_
  refine v_iload_n dX0_soakPanes_30 rfl 3 rfl ?_
  refine v_iald dX0_soakPanes_31 1 rfl h rfl (by omega) (by decide) ?_
  refine v_iload_n dX0_soakPanes_32 rfl 1 rfl ?_
  refine v_irm dX0_soakPanes_33 (nI_ne0 (by omega) (by omega)) ?_
  refine v_istore (lv' := [(4, .int (s_mod (tk h) (nI (pn h)))), (3, .int ((tk h) / (nI (pn h)))), (2, .int (nI (pn h))), (0, .ref c0), (1, .int (nI h))]) dX0_soakPanes_34 (by decide) rfl ?_
  refine v_iconst (v := 0) dX0_soakPanes_36 (by decide) ?_
  refine v_istore (lv' := [(5, .int 0), (4, .int (s_mod (tk h) (nI (pn h)))), (3, .int ((tk h) / (nI (pn h)))), (2, .int (nI (pn h))), (0, .ref c0), (1, .int (nI h))]) dX0_soakPanes_37 (by decide) rfl ?_
  refine v_iconst (v := 0) dX0_soakPanes_39 (by decide) ?_
  refine v_istore (lv' := [(6, .int 0), (5, .int 0), (4, .int (s_mod (tk h) (nI (pn h)))), (3, .int ((tk h) / (nI (pn h)))), (2, .int (nI (pn h))), (0, .ref c0), (1, .int (nI h))]) dX0_soakPanes_40 (by decide) rfl ?_
  have loop42 : ∀ (k42 i : Nat), i + k42 = pn h → V p l e (rmk 1) s m #[.ref c0, .int (nI h)] below meth c (MQ below (v_Qi G (s_sips (tk h) (nI (pn h)) (pn h)) [(c0, .inr (0, [.ref o0, .int nv, .ref aCa, .ref aTk, .ref aGr, .ref aGo, .ref aWe, .ref aDr, .ref aEa, .int br, .int du, .int mi, .int am, .int mb])), (aTk, .inl (G.2.1, 6, .inl tk)), (aGo, .inl (G.2.1, 24, .inl go)), (aDr, .inl (G.2.1, 24, .inl dr)), (o0, .inr (2, [.ref oFa, .ref oWi, .ref oPa, .ref oQu, .ref oSh, .int (nI hk), .int fl, .int ai, .int rn, .int rf, .int rt])), (oPa, .inl (G.2.1, 6, .inl (pN pn)))] [(c0, .inr (0, [.ref o0, .int nv, .ref aCa, .ref aTk, .ref aGr, .ref aGo, .ref aWe, .ref aDr, .ref aEa, .int br, .int (du + s_sips (tk h) (nI (pn h)) (pn h)), .int mi, .int am, .int mb])), (aTk, .inl (G.2.1, 6, .inl tk)), (aGo, .inl (G.2.1, 24, .inl (s_rng (4 * h) (pn h) go (s_gotF h (tk h) (nI (pn h)))))), (aDr, .inl (G.2.1, 24, .inl (s_rng (4 * h) (pn h) dr (s_drF h (tk h) (nI (pn h)) dr)))), (o0, .inr (2, [.ref oFa, .ref oWi, .ref oPa, .ref oQu, .ref oSh, .int (nI hk), .int fl, .int ai, .int rn, .int rf, .int rt])), (oPa, .inl (G.2.1, 6, .inl (pN pn)))]) #[.ref c0, .int (nI h)] s 0 0 (v_in [(c0, .inr (0, [.ref o0, .int nv, .ref aCa, .ref aTk, .ref aGr, .ref aGo, .ref aWe, .ref aDr, .ref aEa, .int br, .int du, .int mi, .int am, .int mb])), (aTk, .inl (G.2.1, 6, .inl tk)), (aGo, .inl (G.2.1, 24, .inl go)), (aDr, .inl (G.2.1, 24, .inl dr)), (o0, .inr (2, [.ref oFa, .ref oWi, .ref oPa, .ref oQu, .ref oSh, .int (nI hk), .int fl, .int ai, .int rn, .int rf, .int rt])), (oPa, .inl (G.2.1, 6, .inl (pN pn)))])) G (v_Iw (v_in [(c0, .inr (0, [.ref o0, .int nv, .ref aCa, .ref aTk, .ref aGr, .ref aGo, .ref aWe, .ref aDr, .ref aEa, .int br, .int du, .int mi, .int am, .int mb])), (aTk, .inl (G.2.1, 6, .inl tk)), (aGo, .inl (G.2.1, 24, .inl go)), (aDr, .inl (G.2.1, 24, .inl dr)), (o0, .inr (2, [.ref oFa, .ref oWi, .ref oPa, .ref oQu, .ref oSh, .int (nI hk), .int fl, .int ai, .int rn, .int rf, .int rt])), (oPa, .inl (G.2.1, 6, .inl (pN pn)))]) s) cX0_soakPanes RX0 9 (some .int) [(c0, .inr (0, [.ref o0, .int nv, .ref aCa, .ref aTk, .ref aGr, .ref aGo, .ref aWe, .ref aDr, .ref aEa, .int br, .int du, .int mi, .int am, .int mb])), (aTk, .inl (G.2.1, 6, .inl tk)), (aGo, .inl (G.2.1, 24, .inl (s_rng (4 * h) i go (s_gotF h (tk h) (nI (pn h)))))), (aDr, .inl (G.2.1, 24, .inl (s_rng (4 * h) i dr (s_drF h (tk h) (nI (pn h)) dr)))), (o0, .inr (2, [.ref oFa, .ref oWi, .ref oPa, .ref oQu, .ref oSh, .int (nI hk), .int fl, .int ai, .int rn, .int rf, .int rt])), (oPa, .inl (G.2.1, 6, .inl (pN pn)))] 0 0 [(6, .int (nI i)), (5, .int (s_sips (tk h) (nI (pn h)) i)), (4, .int (s_mod (tk h) (nI (pn h)))), (3, .int (tk h / nI (pn h))), (2, .int (nI (pn h))), (0, .ref c0), (1, .int (nI h))] 42 [] := by
    intro k42
    induction k42 with
    | zero =>
      intro i hi42
      have hi42 : i = pn h := by omega
      subst hi42
      refine v_iload dX0_soakPanes_42 0 rfl ?_
      refine v_iload_n dX0_soakPanes_44 rfl 4 rfl ?_
      refine v_icmp_ge (tgt := 115) dX0_soakPanes_45 (by decide) (fun h45 => ?_) (fun h45 => absurd (nI_le (by omega) (by omega)) h45)
      refine v_aload_n dX0_soakPanes_115 rfl 5 rfl ?_
      refine v_dup dX0_soakPanes_116 rfl ?_
      refine v_get fX0_109 dX0_soakPanes_117 0 rfl rfl ?_
      refine v_iload dX0_soakPanes_120 1 rfl ?_
      refine v_iadd dX0_soakPanes_122 ?_
      refine v_puti (ws' := [(c0, .inr (0, [.ref o0, .int nv, .ref aCa, .ref aTk, .ref aGr, .ref aGo, .ref aWe, .ref aDr, .ref aEa, .int br, .int (du + (s_sips (tk h) (nI (pn h)) (pn h))), .int mi, .int am, .int mb])), (aTk, .inl (G.2.1, 6, .inl tk)), (aGo, .inl (G.2.1, 24, .inl (s_rng (4 * h) (pn h) go (s_gotF h (tk h) (nI (pn h)))))), (aDr, .inl (G.2.1, 24, .inl (s_rng (4 * h) (pn h) dr (s_drF h (tk h) (nI (pn h)) dr)))), (o0, .inr (2, [.ref oFa, .ref oWi, .ref oPa, .ref oQu, .ref oSh, .int (nI hk), .int fl, .int ai, .int rn, .int rf, .int rt])), (oPa, .inl (G.2.1, 6, .inl (pN pn)))]) pX0_109 dX0_soakPanes_123 0 rfl (Nat.le_of_ble_eq_true rfl) rfl ?_
      refine v_iload dX0_soakPanes_126 1 rfl ?_
      exact v_iretM dX0_soakPanes_128 rfl rfl
    | succ k42 ih42 =>
      intro i hi42
      refine v_iload dX0_soakPanes_42 0 rfl ?_
      refine v_iload_n dX0_soakPanes_44 rfl 4 rfl ?_
      refine v_icmp_ge (tgt := 115) dX0_soakPanes_45 (by decide) (fun h45 => absurd h45 (nI_ge (by omega) (by omega))) (fun h45 => ?_)
      refine v_iload_n dX0_soakPanes_48 rfl 6 rfl ?_
      refine v_iload dX0_soakPanes_49 0 rfl ?_
      refine v_nRd (host := RX3) (As := [.int (nI h), .int (nI i)]) (rest := []) (c_X3_placeOf l G h i ) YX3_placeOf splaceOf (fun hL => hL.2.1) dX0_soakPanes_51 [] rfl rfl rfl (Nat.le_of_ble_eq_true rfl) (by decide) (by decide) ?_
      refine v_istore (lv' := [(7, .int (nI (4 * h + i))), (6, .int (nI i)), (5, .int (s_sips (tk h) (nI (pn h)) i)), (4, .int (s_mod (tk h) (nI (pn h)))), (3, .int (tk h / nI (pn h))), (2, .int (nI (pn h))), (0, .ref c0), (1, .int (nI h))]) dX0_soakPanes_54 (by decide) rfl ?_
      refine v_aload_n dX0_soakPanes_56 rfl 6 rfl ?_
      refine v_get fX0_21 dX0_soakPanes_57 0 rfl rfl ?_
      refine v_iload dX0_soakPanes_60 0 rfl ?_
      refine v_iload dX0_soakPanes_62 1 rfl ?_
      refine v_iload dX0_soakPanes_64 3 rfl ?_
      refine v_icmp_ge (tgt := 75) dX0_soakPanes_66 (by decide) (fun h66 => ?_) (fun h66 => ?_)
      · skip
        refine v_iload_n dX0_soakPanes_75 rfl 4 rfl ?_
        refine v_eqi (s_own (tk h) (nI (pn h)) (nI i)) (by simp only [s_own, if_pos h66]) ?_
        refine v_iast (ws' := [(c0, .inr (0, [.ref o0, .int nv, .ref aCa, .ref aTk, .ref aGr, .ref aGo, .ref aWe, .ref aDr, .ref aEa, .int br, .int du, .int mi, .int am, .int mb])), (aTk, .inl (G.2.1, 6, .inl tk)), (aGo, .inl (G.2.1, 24, .inl (upd (s_rng (4 * h) i go (s_gotF h (tk h) (nI (pn h)))) (4 * h + i) (s_own (tk h) (nI (pn h)) (nI i))))), (aDr, .inl (G.2.1, 24, .inl (s_rng (4 * h) i dr (s_drF h (tk h) (nI (pn h)) dr)))), (o0, .inr (2, [.ref oFa, .ref oWi, .ref oPa, .ref oQu, .ref oSh, .int (nI hk), .int fl, .int ai, .int rn, .int rf, .int rt])), (oPa, .inl (G.2.1, 6, .inl (pN pn)))]) dX0_soakPanes_76 2 rfl (4 * h + i) rfl (by omega) (by decide) rfl ?_
        refine v_aload_n dX0_soakPanes_77 rfl 6 rfl ?_
        refine v_get fX0_21 dX0_soakPanes_78 0 rfl rfl ?_
        refine v_iload dX0_soakPanes_81 0 rfl ?_
        refine v_iald dX0_soakPanes_83 2 rfl (4 * h + i) rfl (by omega) (by decide) ?_
        refine v_eqi (s_own (tk h) (nI (pn h)) (nI i)) pk_us ?_
        refine v_iconst (v := 3) dX0_soakPanes_84 (by decide) ?_
        refine v_xmin mX0_106 dX0_soakPanes_85 ⟨by decide, Nat.le_of_ble_eq_true rfl, by decide, by decide⟩ ?_
        refine v_istore (lv' := [(8, .int (s_min (s_own (tk h) (nI (pn h)) (nI i)) 3)), (7, .int (nI (4 * h + i))), (6, .int (nI i)), (5, .int (s_sips (tk h) (nI (pn h)) i)), (4, .int (s_mod (tk h) (nI (pn h)))), (3, .int (tk h / nI (pn h))), (2, .int (nI (pn h))), (0, .ref c0), (1, .int (nI h))]) dX0_soakPanes_88 (by decide) rfl ?_
        refine v_aload_n dX0_soakPanes_90 rfl 7 rfl ?_
        refine v_get fX0_27 dX0_soakPanes_91 0 rfl rfl ?_
        refine v_iload dX0_soakPanes_94 1 rfl ?_
        refine v_dup2 dX0_soakPanes_96 rfl rfl ?_
        refine v_iald dX0_soakPanes_97 3 rfl (4 * h + i) rfl (by omega) (by decide) ?_
        refine v_eqi (dr (4 * h + i)) (s_rng_at _ _ _ _) ?_
        refine v_iload dX0_soakPanes_98 0 rfl ?_
        refine v_iadd dX0_soakPanes_100 ?_
        refine v_iast (ws' := [(c0, .inr (0, [.ref o0, .int nv, .ref aCa, .ref aTk, .ref aGr, .ref aGo, .ref aWe, .ref aDr, .ref aEa, .int br, .int du, .int mi, .int am, .int mb])), (aTk, .inl (G.2.1, 6, .inl tk)), (aGo, .inl (G.2.1, 24, .inl (upd (s_rng (4 * h) i go (s_gotF h (tk h) (nI (pn h)))) (4 * h + i) (s_own (tk h) (nI (pn h)) (nI i))))), (aDr, .inl (G.2.1, 24, .inl (upd (s_rng (4 * h) i dr (s_drF h (tk h) (nI (pn h)) dr)) (4 * h + i) ((dr (4 * h + i)) + (s_min (s_own (tk h) (nI (pn h)) (nI i)) 3))))), (o0, .inr (2, [.ref oFa, .ref oWi, .ref oPa, .ref oQu, .ref oSh, .int (nI hk), .int fl, .int ai, .int rn, .int rf, .int rt])), (oPa, .inl (G.2.1, 6, .inl (pN pn)))]) dX0_soakPanes_101 3 rfl (4 * h + i) rfl (by omega) (by decide) rfl ?_
        refine v_iload dX0_soakPanes_102 3 rfl ?_
        refine v_iload dX0_soakPanes_104 0 rfl ?_
        refine v_iadd dX0_soakPanes_106 ?_
        refine v_istore (lv' := [(5, .int ((s_sips (tk h) (nI (pn h)) i) + (s_min (s_own (tk h) (nI (pn h)) (nI i)) 3))), (8, .int (s_min (s_own (tk h) (nI (pn h)) (nI i)) 3)), (7, .int (nI (4 * h + i))), (6, .int (nI i)), (4, .int (s_mod (tk h) (nI (pn h)))), (3, .int (tk h / nI (pn h))), (2, .int (nI (pn h))), (0, .ref c0), (1, .int (nI h))]) dX0_soakPanes_107 (by decide) rfl ?_
        refine v_iinc (v := nI i + 1) (q := 3) (lv' := [(6, .int (nI i + 1)), (5, .int ((s_sips (tk h) (nI (pn h)) i) + (s_min (s_own (tk h) (nI (pn h)) (nI i)) 3))), (8, .int (s_min (s_own (tk h) (nI (pn h)) (nI i)) 3)), (7, .int (nI (4 * h + i))), (4, .int (s_mod (tk h) (nI (pn h)))), (3, .int (tk h / nI (pn h))), (2, .int (nI (pn h))), (0, .ref c0), (1, .int (nI h))]) dX0_soakPanes_109 rfl rfl (by decide) rfl ?_
        refine v_goto (tgt := 42) dX0_soakPanes_112 (by decide) ?_
        refine v_world (ws' := [(c0, .inr (0, [.ref o0, .int nv, .ref aCa, .ref aTk, .ref aGr, .ref aGo, .ref aWe, .ref aDr, .ref aEa, .int br, .int du, .int mi, .int am, .int mb])), (aTk, .inl (G.2.1, 6, .inl tk)), (aGo, .inl (G.2.1, 24, .inl (s_rng (4 * h) (i + 1) go (s_gotF h (tk h) (nI (pn h)))))), (aDr, .inl (G.2.1, 24, .inl (s_rng (4 * h) (i + 1) dr (s_drF h (tk h) (nI (pn h)) dr)))), (o0, .inr (2, [.ref oFa, .ref oWi, .ref oPa, .ref oQu, .ref oSh, .int (nI hk), .int fl, .int ai, .int rn, .int rf, .int rt])), (oPa, .inl (G.2.1, 6, .inl (pN pn)))]) (v_w2 (fun (z0 : Nat → Int32) (z1 : Nat → Int32) => ([(c0, .inr (0, [.ref o0, .int nv, .ref aCa, .ref aTk, .ref aGr, .ref aGo, .ref aWe, .ref aDr, .ref aEa, .int br, .int du, .int mi, .int am, .int mb])), (aTk, .inl (G.2.1, 6, .inl tk)), (aGo, .inl (G.2.1, 24, .inl z0)), (aDr, .inl (G.2.1, 24, .inl z1)), (o0, .inr (2, [.ref oFa, .ref oWi, .ref oPa, .ref oQu, .ref oSh, .int (nI hk), .int fl, .int ai, .int rn, .int rf, .int rt])), (oPa, .inl (G.2.1, 6, .inl (pN pn)))] : va_W)) (s_rng_succ (by unfold s_gotF; rw [Nat.add_sub_cancel_left])) (s_rng_succ (by unfold s_drF; rw [Nat.add_sub_cancel_left]))) ?_
        refine v_locals (lv' := [(6, .int (nI i + 1)), (5, .int ((s_sips (tk h) (nI (pn h)) i) + (s_min (s_own (tk h) (nI (pn h)) (nI i)) 3))), (4, .int (s_mod (tk h) (nI (pn h)))), (3, .int (tk h / nI (pn h))), (2, .int (nI (pn h))), (0, .ref c0), (1, .int (nI h))]) [0, 1, 4, 5, 6, 7, 8] rfl ?_
        refine v_lveq (lv' := [(6, .int (nI (i + 1))), (5, .int (s_sips (tk h) (nI (pn h)) (i + 1))), (4, .int (s_mod (tk h) (nI (pn h)))), (3, .int (tk h / nI (pn h))), (2, .int (nI (pn h))), (0, .ref c0), (1, .int (nI h))]) (v_l2 (fun (z0 : Int32) (z1 : Int32) => ([(6, .int z0), (5, .int z1), (4, .int (s_mod (tk h) (nI (pn h)))), (3, .int (tk h / nI (pn h))), (2, .int (nI (pn h))), (0, .ref c0), (1, .int (nI h))] : List (Nat × Value))) (nI_1 i) rfl) ?_
        exact ih42 (i + 1) (by omega)
      · skip
        refine v_iload_n dX0_soakPanes_69 rfl 4 rfl ?_
        refine v_iconst (v := 1) dX0_soakPanes_70 (by decide) ?_
        refine v_iadd dX0_soakPanes_71 ?_
        refine v_goto (tgt := 76) dX0_soakPanes_72 (by decide) ?_
        refine v_eqi (s_own (tk h) (nI (pn h)) (nI i)) (by simp only [s_own, if_neg h66]) ?_
        refine v_iast (ws' := [(c0, .inr (0, [.ref o0, .int nv, .ref aCa, .ref aTk, .ref aGr, .ref aGo, .ref aWe, .ref aDr, .ref aEa, .int br, .int du, .int mi, .int am, .int mb])), (aTk, .inl (G.2.1, 6, .inl tk)), (aGo, .inl (G.2.1, 24, .inl (upd (s_rng (4 * h) i go (s_gotF h (tk h) (nI (pn h)))) (4 * h + i) (s_own (tk h) (nI (pn h)) (nI i))))), (aDr, .inl (G.2.1, 24, .inl (s_rng (4 * h) i dr (s_drF h (tk h) (nI (pn h)) dr)))), (o0, .inr (2, [.ref oFa, .ref oWi, .ref oPa, .ref oQu, .ref oSh, .int (nI hk), .int fl, .int ai, .int rn, .int rf, .int rt])), (oPa, .inl (G.2.1, 6, .inl (pN pn)))]) dX0_soakPanes_76 2 rfl (4 * h + i) rfl (by omega) (by decide) rfl ?_
        refine v_aload_n dX0_soakPanes_77 rfl 6 rfl ?_
        refine v_get fX0_21 dX0_soakPanes_78 0 rfl rfl ?_
        refine v_iload dX0_soakPanes_81 0 rfl ?_
        refine v_iald dX0_soakPanes_83 2 rfl (4 * h + i) rfl (by omega) (by decide) ?_
        refine v_eqi (s_own (tk h) (nI (pn h)) (nI i)) pk_us ?_
        refine v_iconst (v := 3) dX0_soakPanes_84 (by decide) ?_
        refine v_xmin mX0_106 dX0_soakPanes_85 ⟨by decide, Nat.le_of_ble_eq_true rfl, by decide, by decide⟩ ?_
        refine v_istore (lv' := [(8, .int (s_min (s_own (tk h) (nI (pn h)) (nI i)) 3)), (7, .int (nI (4 * h + i))), (6, .int (nI i)), (5, .int (s_sips (tk h) (nI (pn h)) i)), (4, .int (s_mod (tk h) (nI (pn h)))), (3, .int (tk h / nI (pn h))), (2, .int (nI (pn h))), (0, .ref c0), (1, .int (nI h))]) dX0_soakPanes_88 (by decide) rfl ?_
        refine v_aload_n dX0_soakPanes_90 rfl 7 rfl ?_
        refine v_get fX0_27 dX0_soakPanes_91 0 rfl rfl ?_
        refine v_iload dX0_soakPanes_94 1 rfl ?_
        refine v_dup2 dX0_soakPanes_96 rfl rfl ?_
        refine v_iald dX0_soakPanes_97 3 rfl (4 * h + i) rfl (by omega) (by decide) ?_
        refine v_eqi (dr (4 * h + i)) (s_rng_at _ _ _ _) ?_
        refine v_iload dX0_soakPanes_98 0 rfl ?_
        refine v_iadd dX0_soakPanes_100 ?_
        refine v_iast (ws' := [(c0, .inr (0, [.ref o0, .int nv, .ref aCa, .ref aTk, .ref aGr, .ref aGo, .ref aWe, .ref aDr, .ref aEa, .int br, .int du, .int mi, .int am, .int mb])), (aTk, .inl (G.2.1, 6, .inl tk)), (aGo, .inl (G.2.1, 24, .inl (upd (s_rng (4 * h) i go (s_gotF h (tk h) (nI (pn h)))) (4 * h + i) (s_own (tk h) (nI (pn h)) (nI i))))), (aDr, .inl (G.2.1, 24, .inl (upd (s_rng (4 * h) i dr (s_drF h (tk h) (nI (pn h)) dr)) (4 * h + i) ((dr (4 * h + i)) + (s_min (s_own (tk h) (nI (pn h)) (nI i)) 3))))), (o0, .inr (2, [.ref oFa, .ref oWi, .ref oPa, .ref oQu, .ref oSh, .int (nI hk), .int fl, .int ai, .int rn, .int rf, .int rt])), (oPa, .inl (G.2.1, 6, .inl (pN pn)))]) dX0_soakPanes_101 3 rfl (4 * h + i) rfl (by omega) (by decide) rfl ?_
        refine v_iload dX0_soakPanes_102 3 rfl ?_
        refine v_iload dX0_soakPanes_104 0 rfl ?_
        refine v_iadd dX0_soakPanes_106 ?_
        refine v_istore (lv' := [(5, .int ((s_sips (tk h) (nI (pn h)) i) + (s_min (s_own (tk h) (nI (pn h)) (nI i)) 3))), (8, .int (s_min (s_own (tk h) (nI (pn h)) (nI i)) 3)), (7, .int (nI (4 * h + i))), (6, .int (nI i)), (4, .int (s_mod (tk h) (nI (pn h)))), (3, .int (tk h / nI (pn h))), (2, .int (nI (pn h))), (0, .ref c0), (1, .int (nI h))]) dX0_soakPanes_107 (by decide) rfl ?_
        refine v_iinc (v := nI i + 1) (q := 3) (lv' := [(6, .int (nI i + 1)), (5, .int ((s_sips (tk h) (nI (pn h)) i) + (s_min (s_own (tk h) (nI (pn h)) (nI i)) 3))), (8, .int (s_min (s_own (tk h) (nI (pn h)) (nI i)) 3)), (7, .int (nI (4 * h + i))), (4, .int (s_mod (tk h) (nI (pn h)))), (3, .int (tk h / nI (pn h))), (2, .int (nI (pn h))), (0, .ref c0), (1, .int (nI h))]) dX0_soakPanes_109 rfl rfl (by decide) rfl ?_
        refine v_goto (tgt := 42) dX0_soakPanes_112 (by decide) ?_
        refine v_world (ws' := [(c0, .inr (0, [.ref o0, .int nv, .ref aCa, .ref aTk, .ref aGr, .ref aGo, .ref aWe, .ref aDr, .ref aEa, .int br, .int du, .int mi, .int am, .int mb])), (aTk, .inl (G.2.1, 6, .inl tk)), (aGo, .inl (G.2.1, 24, .inl (s_rng (4 * h) (i + 1) go (s_gotF h (tk h) (nI (pn h)))))), (aDr, .inl (G.2.1, 24, .inl (s_rng (4 * h) (i + 1) dr (s_drF h (tk h) (nI (pn h)) dr)))), (o0, .inr (2, [.ref oFa, .ref oWi, .ref oPa, .ref oQu, .ref oSh, .int (nI hk), .int fl, .int ai, .int rn, .int rf, .int rt])), (oPa, .inl (G.2.1, 6, .inl (pN pn)))]) (v_w2 (fun (z0 : Nat → Int32) (z1 : Nat → Int32) => ([(c0, .inr (0, [.ref o0, .int nv, .ref aCa, .ref aTk, .ref aGr, .ref aGo, .ref aWe, .ref aDr, .ref aEa, .int br, .int du, .int mi, .int am, .int mb])), (aTk, .inl (G.2.1, 6, .inl tk)), (aGo, .inl (G.2.1, 24, .inl z0)), (aDr, .inl (G.2.1, 24, .inl z1)), (o0, .inr (2, [.ref oFa, .ref oWi, .ref oPa, .ref oQu, .ref oSh, .int (nI hk), .int fl, .int ai, .int rn, .int rf, .int rt])), (oPa, .inl (G.2.1, 6, .inl (pN pn)))] : va_W)) (s_rng_succ (by unfold s_gotF; rw [Nat.add_sub_cancel_left])) (s_rng_succ (by unfold s_drF; rw [Nat.add_sub_cancel_left]))) ?_
        refine v_locals (lv' := [(6, .int (nI i + 1)), (5, .int ((s_sips (tk h) (nI (pn h)) i) + (s_min (s_own (tk h) (nI (pn h)) (nI i)) 3))), (4, .int (s_mod (tk h) (nI (pn h)))), (3, .int (tk h / nI (pn h))), (2, .int (nI (pn h))), (0, .ref c0), (1, .int (nI h))]) [0, 1, 4, 5, 6, 7, 8] rfl ?_
        refine v_lveq (lv' := [(6, .int (nI (i + 1))), (5, .int (s_sips (tk h) (nI (pn h)) (i + 1))), (4, .int (s_mod (tk h) (nI (pn h)))), (3, .int (tk h / nI (pn h))), (2, .int (nI (pn h))), (0, .ref c0), (1, .int (nI h))]) (v_l2 (fun (z0 : Int32) (z1 : Int32) => ([(6, .int z0), (5, .int z1), (4, .int (s_mod (tk h) (nI (pn h)))), (3, .int (tk h / nI (pn h))), (2, .int (nI (pn h))), (0, .ref c0), (1, .int (nI h))] : List (Nat × Value))) (nI_1 i) rfl) ?_
        exact ih42 (i + 1) (by omega)
  refine v_world (ws' := [(c0, .inr (0, [.ref o0, .int nv, .ref aCa, .ref aTk, .ref aGr, .ref aGo, .ref aWe, .ref aDr, .ref aEa, .int br, .int du, .int mi, .int am, .int mb])), (aTk, .inl (G.2.1, 6, .inl tk)), (aGo, .inl (G.2.1, 24, .inl (s_rng (4 * h) 0 go (s_gotF h (tk h) (nI (pn h)))))), (aDr, .inl (G.2.1, 24, .inl (s_rng (4 * h) 0 dr (s_drF h (tk h) (nI (pn h)) dr)))), (o0, .inr (2, [.ref oFa, .ref oWi, .ref oPa, .ref oQu, .ref oSh, .int (nI hk), .int fl, .int ai, .int rn, .int rf, .int rt])), (oPa, .inl (G.2.1, 6, .inl (pN pn)))]) (v_w2 (fun (z0 : Nat → Int32) (z1 : Nat → Int32) => ([(c0, .inr (0, [.ref o0, .int nv, .ref aCa, .ref aTk, .ref aGr, .ref aGo, .ref aWe, .ref aDr, .ref aEa, .int br, .int du, .int mi, .int am, .int mb])), (aTk, .inl (G.2.1, 6, .inl tk)), (aGo, .inl (G.2.1, 24, .inl z0)), (aDr, .inl (G.2.1, 24, .inl z1)), (o0, .inr (2, [.ref oFa, .ref oWi, .ref oPa, .ref oQu, .ref oSh, .int (nI hk), .int fl, .int ai, .int rn, .int rf, .int rt])), (oPa, .inl (G.2.1, 6, .inl (pN pn)))] : va_W)) (s_rng_0 _ _ _) (s_rng_0 _ _ _)) ?_
  refine v_lveq (lv' := [(6, .int (nI 0)), (5, .int (s_sips (tk h) (nI (pn h)) 0)), (4, .int (s_mod (tk h) (nI (pn h)))), (3, .int (tk h / nI (pn h))), (2, .int (nI (pn h))), (0, .ref c0), (1, .int (nI h))]) (v_l2 (fun (z0 : Int32) (z1 : Int32) => ([(6, .int z0), (5, .int z1), (4, .int (s_mod (tk h) (nI (pn h)))), (3, .int ((tk h) / (nI (pn h)))), (2, .int (nI (pn h))), (0, .ref c0), (1, .int (nI h))] : List (Nat × Value))) nI_0.symm rfl) ?_
  exact loop42 (pn h) 0 (by omega)

set_option maxRecDepth 100000 in
set_option maxHeartbeats 4000000 in
theorem c_X0_tendPanes (l : Launch) (G : v_Cfg) (c0 : Nat) (o0 : Nat) (nv : Int32) (aCa : Nat) (aTk : Nat) (aGr : Nat) (aGo : Nat) (aWe : Nat) (aDr : Nat) (aEa : Nat) (br : Int32) (du : Int32) (mi : Int32) (am : Int32) (mb : Int32) (oFa : Nat) (oWi : Nat) (oPa : Nat) (oQu : Nat) (oSh : Nat) (hk : Nat) (fl : Int32) (ai : Int32) (rn : Int32) (rf : Int32) (rt : Int32) (gr : Nat → Int32) (go : Nat → Int32) (we : Nat → Int32) (ea : Nat → Int32) (sh : Nat → Int32) (pn : Nat → Nat) (h : Nat) (x : Int32) (hh : h < 6) (hn4 : pn h ≤ 4) : MuV l G yX0_tendPanes cX0_tendPanes 6 none 2 [.ref c0, .int (nI h), .int x] [(c0, .inr (0, [.ref o0, .int nv, .ref aCa, .ref aTk, .ref aGr, .ref aGo, .ref aWe, .ref aDr, .ref aEa, .int br, .int du, .int mi, .int am, .int mb])), (aGr, .inl (G.2.1, 24, .inl gr)), (aGo, .inl (G.2.1, 24, .inl go)), (aWe, .inl (G.2.1, 24, .inl we)), (aEa, .inl (G.2.1, 24, .inl ea)), (o0, .inr (2, [.ref oFa, .ref oWi, .ref oPa, .ref oQu, .ref oSh, .int (nI hk), .int fl, .int ai, .int rn, .int rf, .int rt])), (oPa, .inl (G.2.1, 6, .inl (pN pn))), (oSh, .inl (G.2.1, 24, .inl sh))] [(c0, .inr (0, [.ref o0, .int nv, .ref aCa, .ref aTk, .ref aGr, .ref aGo, .ref aWe, .ref aDr, .ref aEa, .int br, .int du, .int mi, .int am, .int mb])), (aGr, .inl (G.2.1, 24, .inl (s_rng (4 * h) (pn h) gr (s_grF ai (s_gz x) go sh gr)))), (aGo, .inl (G.2.1, 24, .inl go)), (aWe, .inl (G.2.1, 24, .inl (s_rng (4 * h) (pn h) we (s_weF go we)))), (aEa, .inl (G.2.1, 24, .inl (s_rng (4 * h) (pn h) ea (s_eaF ai (s_gz x) go sh gr ea)))), (o0, .inr (2, [.ref oFa, .ref oWi, .ref oPa, .ref oQu, .ref oSh, .int (nI hk), .int fl, .int ai, .int rn, .int rf, .int rt])), (oPa, .inl (G.2.1, 6, .inl (pN pn))), (oSh, .inl (G.2.1, 24, .inl sh))] := by
  refine MuV.of (own := RX0) (by decide) rfl (Nat.le_of_ble_eq_true rfl) (fun p e s m below meth c => ?_)
  refine v_aload_n dX0_tendPanes_0 rfl 0 rfl ?_
  refine v_get fX0_33 dX0_tendPanes_1 0 rfl rfl ?_
  refine v_iload_n dX0_tendPanes_4 rfl 2 rfl ?_
  refine v_vRd (As := [.int x]) (rest := []) (c_X2_isGrazing l G o0 oFa oWi oPa oQu oSh hk fl ai rn rf rt x ) YX2_isGrazing mX0_112 dX0_tendPanes_5 ciX2 5 rfl [5] rfl rfl rfl (Nat.le_of_ble_eq_true rfl) (by decide) (by decide) ?_
  refine v_istore_n (lv' := [(3, .int (s_gz x)), (0, .ref c0), (1, .int (nI h)), (2, .int x)]) dX0_tendPanes_8 rfl (by decide) rfl ?_
  refine v_iconst (v := 0) dX0_tendPanes_9 (by decide) ?_
  refine v_istore (lv' := [(4, .int 0), (3, .int (s_gz x)), (0, .ref c0), (1, .int (nI h)), (2, .int x)]) dX0_tendPanes_10 (by decide) rfl ?_
  have loop12 : ∀ (k12 i : Nat), i + k12 = pn h → V p l e (rmk 2) s m #[.ref c0, .int (nI h), .int x] below meth c (MQ below (v_Qv G [(c0, .inr (0, [.ref o0, .int nv, .ref aCa, .ref aTk, .ref aGr, .ref aGo, .ref aWe, .ref aDr, .ref aEa, .int br, .int du, .int mi, .int am, .int mb])), (aGr, .inl (G.2.1, 24, .inl gr)), (aGo, .inl (G.2.1, 24, .inl go)), (aWe, .inl (G.2.1, 24, .inl we)), (aEa, .inl (G.2.1, 24, .inl ea)), (o0, .inr (2, [.ref oFa, .ref oWi, .ref oPa, .ref oQu, .ref oSh, .int (nI hk), .int fl, .int ai, .int rn, .int rf, .int rt])), (oPa, .inl (G.2.1, 6, .inl (pN pn))), (oSh, .inl (G.2.1, 24, .inl sh))] [(c0, .inr (0, [.ref o0, .int nv, .ref aCa, .ref aTk, .ref aGr, .ref aGo, .ref aWe, .ref aDr, .ref aEa, .int br, .int du, .int mi, .int am, .int mb])), (aGr, .inl (G.2.1, 24, .inl (s_rng (4 * h) (pn h) gr (s_grF ai (s_gz x) go sh gr)))), (aGo, .inl (G.2.1, 24, .inl go)), (aWe, .inl (G.2.1, 24, .inl (s_rng (4 * h) (pn h) we (s_weF go we)))), (aEa, .inl (G.2.1, 24, .inl (s_rng (4 * h) (pn h) ea (s_eaF ai (s_gz x) go sh gr ea)))), (o0, .inr (2, [.ref oFa, .ref oWi, .ref oPa, .ref oQu, .ref oSh, .int (nI hk), .int fl, .int ai, .int rn, .int rf, .int rt])), (oPa, .inl (G.2.1, 6, .inl (pN pn))), (oSh, .inl (G.2.1, 24, .inl sh))]) #[.ref c0, .int (nI h), .int x] s 0 0 (v_in [(c0, .inr (0, [.ref o0, .int nv, .ref aCa, .ref aTk, .ref aGr, .ref aGo, .ref aWe, .ref aDr, .ref aEa, .int br, .int du, .int mi, .int am, .int mb])), (aGr, .inl (G.2.1, 24, .inl gr)), (aGo, .inl (G.2.1, 24, .inl go)), (aWe, .inl (G.2.1, 24, .inl we)), (aEa, .inl (G.2.1, 24, .inl ea)), (o0, .inr (2, [.ref oFa, .ref oWi, .ref oPa, .ref oQu, .ref oSh, .int (nI hk), .int fl, .int ai, .int rn, .int rf, .int rt])), (oPa, .inl (G.2.1, 6, .inl (pN pn))), (oSh, .inl (G.2.1, 24, .inl sh))])) G (v_Iw (v_in [(c0, .inr (0, [.ref o0, .int nv, .ref aCa, .ref aTk, .ref aGr, .ref aGo, .ref aWe, .ref aDr, .ref aEa, .int br, .int du, .int mi, .int am, .int mb])), (aGr, .inl (G.2.1, 24, .inl gr)), (aGo, .inl (G.2.1, 24, .inl go)), (aWe, .inl (G.2.1, 24, .inl we)), (aEa, .inl (G.2.1, 24, .inl ea)), (o0, .inr (2, [.ref oFa, .ref oWi, .ref oPa, .ref oQu, .ref oSh, .int (nI hk), .int fl, .int ai, .int rn, .int rf, .int rt])), (oPa, .inl (G.2.1, 6, .inl (pN pn))), (oSh, .inl (G.2.1, 24, .inl sh))]) s) cX0_tendPanes RX0 6 none [(c0, .inr (0, [.ref o0, .int nv, .ref aCa, .ref aTk, .ref aGr, .ref aGo, .ref aWe, .ref aDr, .ref aEa, .int br, .int du, .int mi, .int am, .int mb])), (aGr, .inl (G.2.1, 24, .inl (s_rng (4 * h) i gr (s_grF ai (s_gz x) go sh gr)))), (aGo, .inl (G.2.1, 24, .inl go)), (aWe, .inl (G.2.1, 24, .inl (s_rng (4 * h) i we (s_weF go we)))), (aEa, .inl (G.2.1, 24, .inl (s_rng (4 * h) i ea (s_eaF ai (s_gz x) go sh gr ea)))), (o0, .inr (2, [.ref oFa, .ref oWi, .ref oPa, .ref oQu, .ref oSh, .int (nI hk), .int fl, .int ai, .int rn, .int rf, .int rt])), (oPa, .inl (G.2.1, 6, .inl (pN pn))), (oSh, .inl (G.2.1, 24, .inl sh))] 0 0 [(4, .int (nI i)), (3, .int (s_gz x)), (0, .ref c0), (1, .int (nI h)), (2, .int x)] 12 [] := by
    intro k12
    induction k12 with
    | zero =>
      intro i hi12
      have hi12 : i = pn h := by omega
      subst hi12
      refine v_iload dX0_tendPanes_12 0 rfl ?_
      refine v_aload_n dX0_tendPanes_14 rfl 2 rfl ?_
      refine v_get fX0_33 dX0_tendPanes_15 0 rfl rfl ?_
      refine v_get fX0_94 dX0_tendPanes_18 5 rfl rfl ?_
      refine v_iload_n dX0_tendPanes_21 rfl 3 rfl ?_
      refine v_iald dX0_tendPanes_22 6 rfl h rfl (by omega) (by decide) ?_
      refine v_eqi (nI (pn h)) rfl ?_
      refine v_icmp_ge (tgt := 56) dX0_tendPanes_23 (by decide) (fun h23 => ?_) (fun h23 => absurd (nI_le (by omega) (by omega)) h23)
      exact v_vretM dX0_tendPanes_56 rfl
    | succ k12 ih12 =>
      intro i hi12
      refine v_iload dX0_tendPanes_12 0 rfl ?_
      refine v_aload_n dX0_tendPanes_14 rfl 2 rfl ?_
      refine v_get fX0_33 dX0_tendPanes_15 0 rfl rfl ?_
      refine v_get fX0_94 dX0_tendPanes_18 5 rfl rfl ?_
      refine v_iload_n dX0_tendPanes_21 rfl 3 rfl ?_
      refine v_iald dX0_tendPanes_22 6 rfl h rfl (by omega) (by decide) ?_
      refine v_eqi (nI (pn h)) rfl ?_
      refine v_icmp_ge (tgt := 56) dX0_tendPanes_23 (by decide) (fun h23 => absurd h23 (nI_ge (by omega) (by omega))) (fun h23 => ?_)
      refine v_iload_n dX0_tendPanes_26 rfl 3 rfl ?_
      refine v_iload dX0_tendPanes_27 0 rfl ?_
      refine v_nRd (host := RX3) (As := [.int (nI h), .int (nI i)]) (rest := []) (c_X3_placeOf l G h i ) YX3_placeOf splaceOf (fun hL => hL.2.1) dX0_tendPanes_29 [] rfl rfl rfl (Nat.le_of_ble_eq_true rfl) (by decide) (by decide) ?_
      refine v_istore (lv' := [(5, .int (nI (4 * h + i))), (4, .int (nI i)), (3, .int (s_gz x)), (0, .ref c0), (1, .int (nI h)), (2, .int x)]) dX0_tendPanes_32 (by decide) rfl ?_
      refine v_aload_n dX0_tendPanes_34 rfl 3 rfl ?_
      refine v_iload dX0_tendPanes_35 0 rfl ?_
      refine v_vMv (ws' := [(c0, .inr (0, [.ref o0, .int nv, .ref aCa, .ref aTk, .ref aGr, .ref aGo, .ref aWe, .ref aDr, .ref aEa, .int br, .int du, .int mi, .int am, .int mb])), (aGr, .inl (G.2.1, 24, .inl (upd (s_rng (4 * h) i gr (s_grF ai (s_gz x) go sh gr)) (4 * h + i) (s_grow ai (go (4 * h + i)) ((s_rng (4 * h) i gr (s_grF ai (s_gz x) go sh gr)) (4 * h + i)))))), (aGo, .inl (G.2.1, 24, .inl go)), (aWe, .inl (G.2.1, 24, .inl (upd (s_rng (4 * h) i we (s_weF go we)) (4 * h + i) (s_wet (go (4 * h + i)) ((s_rng (4 * h) i we (s_weF go we)) (4 * h + i)))))), (aEa, .inl (G.2.1, 24, .inl (s_rng (4 * h) i ea (s_eaF ai (s_gz x) go sh gr ea)))), (o0, .inr (2, [.ref oFa, .ref oWi, .ref oPa, .ref oQu, .ref oSh, .int (nI hk), .int fl, .int ai, .int rn, .int rf, .int rt])), (oPa, .inl (G.2.1, 6, .inl (pN pn))), (oSh, .inl (G.2.1, 24, .inl sh))]) (As := [.int (nI (4 * h + i))]) (rest := []) (c_X0_growGrass l G c0 o0 nv aCa aTk aGr aGo aWe aDr aEa br du mi am mb oFa oWi oPa oQu oSh hk fl ai rn rf rt (s_rng (4 * h) i gr (s_grF ai (s_gz x) go sh gr)) go (s_rng (4 * h) i we (s_weF go we)) (4 * h + i) (by omega)) YX0_growGrass mX0_115 dX0_tendPanes_37 ciX0 0 rfl [0, 1, 2, 3, 5] (by decide) rfl rfl rfl rfl rfl rfl (Nat.le_of_ble_eq_true rfl) (by decide) (by decide) ?_
      refine v_iload_n dX0_tendPanes_40 rfl 2 rfl ?_
      refine v_if_eq (tgt := 50) dX0_tendPanes_41 (by decide) (fun h41 => ?_) (fun h41 => ?_)
      · skip
        refine v_iinc (v := nI i + 1) (q := 1) (lv' := [(4, .int (nI i + 1)), (5, .int (nI (4 * h + i))), (3, .int (s_gz x)), (0, .ref c0), (1, .int (nI h)), (2, .int x)]) dX0_tendPanes_50 rfl rfl (by decide) rfl ?_
        refine v_goto (tgt := 12) dX0_tendPanes_53 (by decide) ?_
        refine v_world (ws' := [(c0, .inr (0, [.ref o0, .int nv, .ref aCa, .ref aTk, .ref aGr, .ref aGo, .ref aWe, .ref aDr, .ref aEa, .int br, .int du, .int mi, .int am, .int mb])), (aGr, .inl (G.2.1, 24, .inl (s_rng (4 * h) (i + 1) gr (s_grF ai (s_gz x) go sh gr)))), (aGo, .inl (G.2.1, 24, .inl go)), (aWe, .inl (G.2.1, 24, .inl (s_rng (4 * h) (i + 1) we (s_weF go we)))), (aEa, .inl (G.2.1, 24, .inl (s_rng (4 * h) (i + 1) ea (s_eaF ai (s_gz x) go sh gr ea)))), (o0, .inr (2, [.ref oFa, .ref oWi, .ref oPa, .ref oQu, .ref oSh, .int (nI hk), .int fl, .int ai, .int rn, .int rf, .int rt])), (oPa, .inl (G.2.1, 6, .inl (pN pn))), (oSh, .inl (G.2.1, 24, .inl sh))]) (v_w3 (fun (z0 : Nat → Int32) (z1 : Nat → Int32) (z2 : Nat → Int32) => ([(c0, .inr (0, [.ref o0, .int nv, .ref aCa, .ref aTk, .ref aGr, .ref aGo, .ref aWe, .ref aDr, .ref aEa, .int br, .int du, .int mi, .int am, .int mb])), (aGr, .inl (G.2.1, 24, .inl z0)), (aGo, .inl (G.2.1, 24, .inl go)), (aWe, .inl (G.2.1, 24, .inl z1)), (aEa, .inl (G.2.1, 24, .inl z2)), (o0, .inr (2, [.ref oFa, .ref oWi, .ref oPa, .ref oQu, .ref oSh, .int (nI hk), .int fl, .int ai, .int rn, .int rf, .int rt])), (oPa, .inl (G.2.1, 6, .inl (pN pn))), (oSh, .inl (G.2.1, 24, .inl sh))] : va_W)) (by simp only [upd_upd, pk_us, s_rng_at]; exact s_rng_succ (by simp only [s_grF, s_bite, if_pos h41, Int32.sub_zero])) (s_rng_succ (by unfold s_weF; rw [s_rng_at])) (by rw [← s_rng_succ (x := s_rng (4 * h) i ea (s_eaF ai (s_gz x) go sh gr ea) (4 * h + i)) (by simp only [s_rng_at, s_eaF, s_bite, if_pos h41, Int32.add_zero]), u_id])) ?_
        refine v_locals (lv' := [(4, .int (nI i + 1)), (3, .int (s_gz x)), (0, .ref c0), (1, .int (nI h)), (2, .int x)]) [0, 2, 3, 4, 5] rfl ?_
        refine v_lveq (lv' := [(4, .int (nI (i + 1))), (3, .int (s_gz x)), (0, .ref c0), (1, .int (nI h)), (2, .int x)]) (v_l1 (fun (z0 : Int32) => ([(4, .int z0), (3, .int (s_gz x)), (0, .ref c0), (1, .int (nI h)), (2, .int x)] : List (Nat × Value))) (nI_1 i)) ?_
        exact ih12 (i + 1) (by omega)
      · skip
        refine v_aload_n dX0_tendPanes_44 rfl 3 rfl ?_
        refine v_iload dX0_tendPanes_45 0 rfl ?_
        refine v_vMv (ws' := [(c0, .inr (0, [.ref o0, .int nv, .ref aCa, .ref aTk, .ref aGr, .ref aGo, .ref aWe, .ref aDr, .ref aEa, .int br, .int du, .int mi, .int am, .int mb])), (aGr, .inl (G.2.1, 24, .inl (upd (upd (s_rng (4 * h) i gr (s_grF ai (s_gz x) go sh gr)) (4 * h + i) (s_grow ai (go (4 * h + i)) ((s_rng (4 * h) i gr (s_grF ai (s_gz x) go sh gr)) (4 * h + i)))) (4 * h + i) ((upd (s_rng (4 * h) i gr (s_grF ai (s_gz x) go sh gr)) (4 * h + i) (s_grow ai (go (4 * h + i)) ((s_rng (4 * h) i gr (s_grF ai (s_gz x) go sh gr)) (4 * h + i)))) (4 * h + i) - s_min (sh (4 * h + i)) ((upd (s_rng (4 * h) i gr (s_grF ai (s_gz x) go sh gr)) (4 * h + i) (s_grow ai (go (4 * h + i)) ((s_rng (4 * h) i gr (s_grF ai (s_gz x) go sh gr)) (4 * h + i)))) (4 * h + i)))))), (aGo, .inl (G.2.1, 24, .inl go)), (aWe, .inl (G.2.1, 24, .inl (upd (s_rng (4 * h) i we (s_weF go we)) (4 * h + i) (s_wet (go (4 * h + i)) ((s_rng (4 * h) i we (s_weF go we)) (4 * h + i)))))), (aEa, .inl (G.2.1, 24, .inl (upd (s_rng (4 * h) i ea (s_eaF ai (s_gz x) go sh gr ea)) (4 * h + i) ((s_rng (4 * h) i ea (s_eaF ai (s_gz x) go sh gr ea)) (4 * h + i) + s_min (sh (4 * h + i)) ((upd (s_rng (4 * h) i gr (s_grF ai (s_gz x) go sh gr)) (4 * h + i) (s_grow ai (go (4 * h + i)) ((s_rng (4 * h) i gr (s_grF ai (s_gz x) go sh gr)) (4 * h + i)))) (4 * h + i)))))), (o0, .inr (2, [.ref oFa, .ref oWi, .ref oPa, .ref oQu, .ref oSh, .int (nI hk), .int fl, .int ai, .int rn, .int rf, .int rt])), (oPa, .inl (G.2.1, 6, .inl (pN pn))), (oSh, .inl (G.2.1, 24, .inl sh))]) (As := [.int (nI (4 * h + i))]) (rest := []) (c_X0_grazePane l G c0 o0 nv aCa aTk aGr aGo aWe aDr aEa br du mi am mb oFa oWi oPa oQu oSh hk fl ai rn rf rt (upd (s_rng (4 * h) i gr (s_grF ai (s_gz x) go sh gr)) (4 * h + i) (s_grow ai (go (4 * h + i)) ((s_rng (4 * h) i gr (s_grF ai (s_gz x) go sh gr)) (4 * h + i)))) (s_rng (4 * h) i ea (s_eaF ai (s_gz x) go sh gr ea)) sh (4 * h + i) (by omega)) YX0_grazePane mX0_119 dX0_tendPanes_47 ciX0 0 rfl [0, 1, 4, 5, 7] (by decide) rfl rfl rfl rfl rfl rfl (Nat.le_of_ble_eq_true rfl) (by decide) (by decide) ?_
        refine v_iinc (v := nI i + 1) (q := 1) (lv' := [(4, .int (nI i + 1)), (5, .int (nI (4 * h + i))), (3, .int (s_gz x)), (0, .ref c0), (1, .int (nI h)), (2, .int x)]) dX0_tendPanes_50 rfl rfl (by decide) rfl ?_
        refine v_goto (tgt := 12) dX0_tendPanes_53 (by decide) ?_
        refine v_world (ws' := [(c0, .inr (0, [.ref o0, .int nv, .ref aCa, .ref aTk, .ref aGr, .ref aGo, .ref aWe, .ref aDr, .ref aEa, .int br, .int du, .int mi, .int am, .int mb])), (aGr, .inl (G.2.1, 24, .inl (s_rng (4 * h) (i + 1) gr (s_grF ai (s_gz x) go sh gr)))), (aGo, .inl (G.2.1, 24, .inl go)), (aWe, .inl (G.2.1, 24, .inl (s_rng (4 * h) (i + 1) we (s_weF go we)))), (aEa, .inl (G.2.1, 24, .inl (s_rng (4 * h) (i + 1) ea (s_eaF ai (s_gz x) go sh gr ea)))), (o0, .inr (2, [.ref oFa, .ref oWi, .ref oPa, .ref oQu, .ref oSh, .int (nI hk), .int fl, .int ai, .int rn, .int rf, .int rt])), (oPa, .inl (G.2.1, 6, .inl (pN pn))), (oSh, .inl (G.2.1, 24, .inl sh))]) (v_w3 (fun (z0 : Nat → Int32) (z1 : Nat → Int32) (z2 : Nat → Int32) => ([(c0, .inr (0, [.ref o0, .int nv, .ref aCa, .ref aTk, .ref aGr, .ref aGo, .ref aWe, .ref aDr, .ref aEa, .int br, .int du, .int mi, .int am, .int mb])), (aGr, .inl (G.2.1, 24, .inl z0)), (aGo, .inl (G.2.1, 24, .inl go)), (aWe, .inl (G.2.1, 24, .inl z1)), (aEa, .inl (G.2.1, 24, .inl z2)), (o0, .inr (2, [.ref oFa, .ref oWi, .ref oPa, .ref oQu, .ref oSh, .int (nI hk), .int fl, .int ai, .int rn, .int rf, .int rt])), (oPa, .inl (G.2.1, 6, .inl (pN pn))), (oSh, .inl (G.2.1, 24, .inl sh))] : va_W)) (by simp only [upd_upd, pk_us, s_rng_at]; exact s_rng_succ (by simp only [s_grF, s_bite, if_neg h41, Int32.sub_zero])) (s_rng_succ (by unfold s_weF; rw [s_rng_at])) (by simp only [upd_upd, pk_us, s_rng_at]; exact s_rng_succ (by simp only [s_eaF, s_bite, if_neg h41]))) ?_
        refine v_locals (lv' := [(4, .int (nI i + 1)), (3, .int (s_gz x)), (0, .ref c0), (1, .int (nI h)), (2, .int x)]) [0, 2, 3, 4, 5] rfl ?_
        refine v_lveq (lv' := [(4, .int (nI (i + 1))), (3, .int (s_gz x)), (0, .ref c0), (1, .int (nI h)), (2, .int x)]) (v_l1 (fun (z0 : Int32) => ([(4, .int z0), (3, .int (s_gz x)), (0, .ref c0), (1, .int (nI h)), (2, .int x)] : List (Nat × Value))) (nI_1 i)) ?_
        exact ih12 (i + 1) (by omega)
  refine v_world (ws' := [(c0, .inr (0, [.ref o0, .int nv, .ref aCa, .ref aTk, .ref aGr, .ref aGo, .ref aWe, .ref aDr, .ref aEa, .int br, .int du, .int mi, .int am, .int mb])), (aGr, .inl (G.2.1, 24, .inl (s_rng (4 * h) 0 gr (s_grF ai (s_gz x) go sh gr)))), (aGo, .inl (G.2.1, 24, .inl go)), (aWe, .inl (G.2.1, 24, .inl (s_rng (4 * h) 0 we (s_weF go we)))), (aEa, .inl (G.2.1, 24, .inl (s_rng (4 * h) 0 ea (s_eaF ai (s_gz x) go sh gr ea)))), (o0, .inr (2, [.ref oFa, .ref oWi, .ref oPa, .ref oQu, .ref oSh, .int (nI hk), .int fl, .int ai, .int rn, .int rf, .int rt])), (oPa, .inl (G.2.1, 6, .inl (pN pn))), (oSh, .inl (G.2.1, 24, .inl sh))]) (v_w3 (fun (z0 : Nat → Int32) (z1 : Nat → Int32) (z2 : Nat → Int32) => ([(c0, .inr (0, [.ref o0, .int nv, .ref aCa, .ref aTk, .ref aGr, .ref aGo, .ref aWe, .ref aDr, .ref aEa, .int br, .int du, .int mi, .int am, .int mb])), (aGr, .inl (G.2.1, 24, .inl z0)), (aGo, .inl (G.2.1, 24, .inl go)), (aWe, .inl (G.2.1, 24, .inl z1)), (aEa, .inl (G.2.1, 24, .inl z2)), (o0, .inr (2, [.ref oFa, .ref oWi, .ref oPa, .ref oQu, .ref oSh, .int (nI hk), .int fl, .int ai, .int rn, .int rf, .int rt])), (oPa, .inl (G.2.1, 6, .inl (pN pn))), (oSh, .inl (G.2.1, 24, .inl sh))] : va_W)) (s_rng_0 _ _ _) (s_rng_0 _ _ _) (s_rng_0 _ _ _)) ?_
  refine v_lveq (lv' := [(4, .int (nI 0)), (3, .int (s_gz x)), (0, .ref c0), (1, .int (nI h)), (2, .int x)]) (v_l1 (fun (z0 : Int32) => ([(4, .int z0), (3, .int (s_gz x)), (0, .ref c0), (1, .int (nI h)), (2, .int x)] : List (Nat × Value))) nI_0.symm) ?_
  exact loop12 (pn h) 0 (by omega)

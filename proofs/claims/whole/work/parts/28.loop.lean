/-! ===== the law's loop ===== -/
theorem wm_cmp {L i : Nat} (hL : L ≤ 2048) (hi : i ≤ L + 4) : nI L - nI 4 < nI i ↔ L < i + 4 := by
  rw [Int32.lt_iff_toInt_lt, pk_sub_toInt (by omega) (by omega), nI_toInt (by omega)]
  omega
theorem law_end {p : Program} {l : Launch} {e : Env} {s : State} {m : MethodId} {below : List Frame} {meth : Method} {c : Code} {G : v_Cfg} {b : Nat} {ws : va_W} {lv : List (Nat × Value)} {k n : Nat} (hk : k ≤ 600000) (hn : n ≤ 7302250) : V p l e room_1 s m #[Value.ref b] below meth c (lw_Z below #[Value.ref b] s) G (v_Iw (fun q => s.heap.size ≤ q) s) cL_law RL 4 ret ws k n lv 589 [] := fun C H locs ls hP hI hl => by
  refine lv_iconst (v := 1) C.1 C.2.1 dL_law_589 (by decide) ?_
  refine va_forget (fun q hq => hI.2.2.2 q hq) ?_
  refine W.widen hk hn ?_
  exact lw_ret C.1 C.2.1 C.2.2.2.2.2.2.2 C.2.2.2.2.2.2.1 dL_law_590
theorem law_583 {p : Program} {l : Launch} {e : Env} {s : State} {m : MethodId} {below : List Frame} {meth : Method} {c : Code} {G : v_Cfg} {b : Nat} {x0 o0 g0 sA oFa oWi oPa oQu oSh lH lS lW lT m0 : Nat} {ad : Nat → Nat → Nat} {md : Nat → Nat} {i : Nat} (h : LGo p l e s m below meth c G b x0 o0 g0 sA oFa oWi oPa oQu oSh lH lS lW lT m0 ad md (i + 4) 18) : LGo p l e s m below meth c G b x0 o0 g0 sA oFa oWi oPa oQu oSh lH lS lW lT m0 ad md i 583 := fun fn pn wi qu sh hk ho de bn fl ai rn rf rt lh ls lw lt cs hI => by
  refine v_iinc (v := nI (i + 4)) (q := 0) (lv' := [(3, .int (nI (i + 4))), (2, .ref m0), (1, .ref x0), (0, .ref b)]) dL_law_583 rfl (nI_add i 4) (by decide) rfl ?_
  refine v_goto (tgt := 18) dL_law_586 (by decide) ?_
  exact h fn pn wi qu sh hk ho de bn fl ai rn rf rt lh ls lw lt cs hI
set_option maxRecDepth 100000 in
set_option maxHeartbeats 8000000 in
theorem law_loop {p : Program} {l : Launch} {e : Env} {s : State} {m : MethodId} {below : List Frame} {meth : Method} {c : Code} {G : v_Cfg} {b L : Nat} {xs : Nat → Int32} {x0 o0 g0 sA oFa oWi oPa oQu oSh lH lS lW lT m0 : Nat} {ad : Nat → Nat → Nat} {md : Nat → Nat} (hX : va_X b L xs s s.heap) (hbl : b < s.heap.size) (hL : L ≤ 2048) : ∀ (n i : Nat), L < i + n → i ≤ L + 4 → LGo p l e s m below meth c G b x0 o0 g0 sA oFa oWi oPa oQu oSh lH lS lW lT m0 ad md i 18 := by
  have hbA : ¬ (fun q : Nat => s.heap.size ≤ q) b := Nat.not_le.mpr hbl
  intro n
  induction n with
  | zero =>
    intro i hn hiL fn pn wi qu sh hk ho de bn fl ai rn rf rt lh ls lw lt cs hI
    refine v_iload_n dL_law_18 rfl 0 rfl ?_
    refine v_aload_n dL_law_19 rfl 3 rfl ?_
    refine v_slen hX hbl hbA dL_law_20 ?_
    refine v_iconst (v := nI 4) dL_law_21 (by decide) ?_
    refine v_isub dL_law_22 ?_
    refine v_icmp_gt (tgt := 589) dL_law_23 (by decide) (fun h => ?_) (fun h => absurd ((wm_cmp hL hiL).mpr (by omega)) h)
    exact law_end (by decide) (by decide)
  | succ n ih =>
    intro i hn hiL fn pn wi qu sh hk ho de bn fl ai rn rf rt lh ls lw lt cs hI
    refine v_iload_n dL_law_18 rfl 0 rfl ?_
    refine v_aload_n dL_law_19 rfl 3 rfl ?_
    refine v_slen hX hbl hbA dL_law_20 ?_
    refine v_iconst (v := nI 4) dL_law_21 (by decide) ?_
    refine v_isub dL_law_22 ?_
    refine v_icmp_gt (tgt := 589) dL_law_23 (by decide) (fun h => ?_) (fun h => ?_)
    · exact law_end (by decide) (by decide)
    have hi4 : i + 4 ≤ L := Nat.le_of_not_lt (fun q => h ((wm_cmp hL hiL).mpr q))
    have k583 : LGo p l e s m below meth c G b x0 o0 g0 sA oFa oWi oPa oQu oSh lH lS lW lT m0 ad md i 583 := law_583 (ih (i + 4) (by omega) (by omega))
    refine v_aload_n dL_law_26 rfl 3 rfl ?_
    refine v_iload_n dL_law_27 rfl 0 rfl ?_
    refine v_sld hX hbl hbA dL_law_28 i rfl (by omega) (by omega) ?_
    refine v_bipush (v := 15) dL_law_29 (by decide) ?_
    refine v_iand dL_law_31 ?_
    obtain ⟨j, hj, ej⟩ := pk_andE (xs i) (m := 15) 4 (by decide)
    refine v_eqi (nI j) ej ?_
    rcases (show j = 0 ∨ j = 1 ∨ j = 2 ∨ j = 3 ∨ j = 4 ∨ j = 5 ∨ j = 6 ∨ j = 7 ∨ j = 8 ∨ j = 9 ∨ j = 10 ∨ j = 11 ∨ j = 12 ∨ j = 13 ∨ j = 14 ∨ j = 15 by omega) with rfl | rfl | rfl | rfl | rfl | rfl | rfl | rfl | rfl | rfl | rfl | rfl | rfl | rfl | rfl | rfl
    · refine v_tableIn (off := 76) (tgt := 108) dL_law_32 (by decide) (by decide) (by decide) (by decide) ?_
      exact op_hatch hX hbl hi4 hL hI k583
    · refine v_tableIn (off := 119) (tgt := 151) dL_law_32 (by decide) (by decide) (by decide) (by decide) ?_
      exact op_open hX hbl hi4 hL hI k583
    · refine v_tableIn (off := 152) (tgt := 184) dL_law_32 (by decide) (by decide) (by decide) (by decide) ?_
      exact op_flow hX hbl hi4 hL hI k583
    · refine v_tableIn (off := 175) (tgt := 207) dL_law_32 (by decide) (by decide) (by decide) (by decide) ?_
      exact op_air hX hbl hi4 hL hI k583
    · refine v_tableIn (off := 198) (tgt := 230) dL_law_32 (by decide) (by decide) (by decide) (by decide) ?_
      exact op_dig hX hbl hi4 hL hI k583
    · refine v_tableIn (off := 221) (tgt := 253) dL_law_32 (by decide) (by decide) (by decide) (by decide) ?_
      exact op_sheep hX hbl hi4 hL hI k583
    · refine v_tableIn (off := 264) (tgt := 296) dL_law_32 (by decide) (by decide) (by decide) (by decide) ?_
      exact op_right hX hbl hi4 hL hI k583
    · refine v_tableIn (off := 307) (tgt := 339) dL_law_32 (by decide) (by decide) (by decide) (by decide) ?_
      exact op_hours hX hbl hi4 hL hI k583
    · refine v_tableIn (off := 330) (tgt := 362) dL_law_32 (by decide) (by decide) (by decide) (by decide) ?_
      exact op_told hX hbl hi4 hL hI k583
    · refine v_tableIn (off := 363) (tgt := 395) dL_law_32 (by decide) (by decide) (by decide) (by decide) ?_
      exact op_pane hX hbl hi4 hL hI k583
    · refine v_tableIn (off := 406) (tgt := 438) dL_law_32 (by decide) (by decide) (by decide) (by decide) ?_
      exact op_stream hX hbl hi4 hL hI k583
    · refine v_tableIn (off := 429) (tgt := 461) dL_law_32 (by decide) (by decide) (by decide) (by decide) ?_
      exact op_broken hX hbl hi4 hL hI k583
    · refine v_tableIn (off := 462) (tgt := 494) dL_law_32 (by decide) (by decide) (by decide) (by decide) ?_
      exact op_farm hX hbl hi4 hL hI k583
    · refine v_tableIn (off := 495) (tgt := 527) dL_law_32 (by decide) (by decide) (by decide) (by decide) ?_
      exact op_without hX hbl hi4 hL hI k583
    · refine v_tableIn (off := 528) (tgt := 560) dL_law_32 (by decide) (by decide) (by decide) (by decide) ?_
      exact op_count hX hbl hi4 hL hI k583
    · refine v_tableOut (tgt := 583) dL_law_32 (by decide) (by decide) ?_
      exact k583 fn pn wi qu sh hk ho de bn fl ai rn rf rt lh ls lw lt cs hI


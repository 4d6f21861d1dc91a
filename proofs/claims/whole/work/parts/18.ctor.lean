/-! ===== constructors: cells that are made ===== -/
def v_Pk (G : v_Cfg) (av : List Value) (w : va_W) (sz : Nat) : Array Value → State → Prop := va_Pc av (fun U => U.heap.size = sz ∧ va_P G.1 vwCl w U.heap ∧ va_D (fun _ => True) w ∧ xK G U ∧ va_AO RX0 U)
def v_Qk (G : v_Cfg) (w : va_W) (sz : Nat) (W1 : (Nat → Nat) → va_W) : Array Value → State → Outcome → State → Prop := fun _ st o t => o = .returned none ∧ ∃ q : Nat → Nat, va_P G.1 vwCl (W1 q) t.heap ∧ va_D (va_A w sz) (W1 q) ∧ va_F (va_A w sz) st t
def rmc (d mc ms : Nat) : Room := { frames := d, cells := mc, slots := ms, locals := 32 * d }
def MkV (l : Launch) (G : v_Cfg) (y : MethodName) (cc : ByteArray) (n : Nat) (d mc ms : Nat) (av : List Value) (w : va_W) (sz : Nat) (W1 : (Nat → Nat) → va_W) : Prop := Met l y (v_ws y cc n none) (rmc d mc ms) (v_Pk G av w sz) (v_Qk G w sz W1) mc ms (va_A w sz)
theorem MkV.of {l : Launch} {G : v_Cfg} {y : MethodName} {cc : ByteArray} {nL d mc ms : Nat} {av : List Value} {w : va_W} {sz : Nat} {W1 : (Nat → Nat) → va_W} {own : String} (hy : plainName y.cls = true) (ho : y.cls = own) (hnm : y.name = "<init>") (hn : (lg_sl av).length ≤ nL)
    (body : ∀ (p : Program) (e : Env) (s : State) (m : MethodId) (below : List Frame) (meth : Method) (c : Code), (∀ q : Nat, s.heap.size ≤ q → va_A w sz q) → meth.name = "<init>" → va_AO RX0 s → V p l e (rmc d mc ms) s m av.toArray below meth c (MQ below (v_Qk G w sz W1) av.toArray s mc ms (va_A w sz)) G (v_Iw (va_A w sz) s) cc own nL none w 0 0 (lv_args 0 av) 0 []) : MkV l G y cc nL d mc ms av w sz W1 := by
  subst ho
  refine Met.ofW (cc := cc) (maxL := nL) (ret := none) hy rfl ?_
  intro p e s m args below meth c s₁ B hml hv
  obtain ⟨rfl, hsz, hP, hD, hK, hO⟩ := hv
  have hts := atoms_spec (ws := v_ws y cc nL none) B.pre
  rw [lg_entry_eq]
  exact body p e s m below meth c (fun q h => Or.inr (by rw [← hsz]; exact h)) ((name_of_methodNamed B.named B.method).1.trans hnm) hO ⟨B.exec, B.bytes, hml, findClass_of_methodNamed B.named, fun w hw => hts w (List.mem_cons_of_mem _ hw), hK, B.notSynchronized, B.returns⟩ _ _ _ hP ⟨hD.self, va_S.rf⟩ (lv_entry av hn)
def v_FF (own : String) (index ci k : Nat) (t : FieldType) : Prop := ∃ (C : String) (T : u_T) (N : Nat) (ty : Nat → FieldType), vwCl[ci]? = some (C, T, N) ∧ (∀ w ∈ u_ws C T N, w ∈ tbG) ∧ (∀ k, k < N → parseFieldDescriptor (T k).2.2.1 = some (ty k)) ∧ (∀ a, a < N → ∀ b, b < N → a ≠ b → (T a).2.1 ≠ (T b).2.1) ∧ k < N ∧ Cond.fieldLink own index (T k).1 (T k).2.1 (T k).2.2.1 ∈ tbG ∧ (T k).2.2.2 = true ∧ (T k).1 = own ∧ parseFieldDescriptor (T k).2.2.1 = some t
theorem k_arr : Cond.arrayClass .int ∈ tbG := tb_1 (i := 74) (by decide +kernel) rfl
theorem k_oi1 : Cond.instanceMethod Lib.objectInit ∈ tbG := tb_1 (i := 13) (by decide +kernel) rfl
theorem k_oi2 : Cond.code Lib.objectInit ⟨#[0xb1]⟩ 1 none ∈ tbG := tb_1 (i := 14) (by decide +kernel) rfl
section VK
variable {p : Program} {l : Launch} {e : Env} {R : Room} {s : State} {m : MethodId} {args : Array Value} {below : List Frame} {meth : Method} {c : Code} {Q : State → Prop} {G : v_Cfg} {A : Nat → Prop} {cc : ByteArray} {own : String} {nL : Nat} {ret : Option FieldType} {ws : va_W} {k n : Nat} {lv : List (Nat × Value)} {pc : Nat} {st : List Value}
theorem v_objI {a idx : Nat} (hL : Cond.methodLink own idx Lib.objectInit ∈ tbG) (hdg : decode cc pc = .ok (.invokespecial idx, 3)) (hf : 1 ≤ R.frames) (hl0 : (st.map fun v => v.category).sum + 12 ≤ R.locals) (kk : V p l e R s m args below meth c Q G (v_Iw A s) cc own nL ret ws k n lv (pc + 3) st) : V p l e R s m args below meth c Q G (v_Iw A s) cc own nL ret ws k n lv pc (.ref a :: st) := fun C H locs ls hP hI hl =>
  W.objInit C.1 C.2.1 C.2.2.2.1 (C.2.2.2.2.1 _ hL) (C.2.2.2.2.1 _ k_oi1) (C.2.2.2.2.1 _ k_oi2) rfl (hl.1.trans C.2.2.1.symm) rfl hdg hf (by show 2 * 0 + _ + 12 ≤ _; omega) (kk C H locs ls hP hI hl)
theorem v_newi {x : Int32} {N : Nat} {ws' : Nat → va_W} (hA : ∀ q : Nat, s.heap.size ≤ q → A q) (hdg : decode cc pc = .ok (.newarray .int, 2)) (hn : ¬ x < 0) (hN : x.toNatClampNeg = N) (hb : N * componentBytes .int ≤ 536870912) (hc : k + 1 ≤ R.cells) (hs : n + N ≤ R.slots) (hw : ∀ q, ws ++ [(q, .inl (G.2.1, N, .inl (fun _ => 0)))] = ws' q)
    (kk : ∀ q, V p l e R s m args below meth c Q G (v_Iw A s) cc own nL ret (ws' q) (k + 1) (n + N) lv (pc + 2) (.ref q :: st)) : V p l e R s m args below meth c Q G (v_Iw A s) cc own nL ret ws k n lv pc (.int x :: st) := fun C H locs ls hP hI hl => by
  have hK := C.2.2.2.2.2.1.1
  refine va_newa (atype := .int) (ty := .int) (a0 := (N, .inl (fun _ => 0))) C.1 C.2.1 (C.2.2.2.2.1 _ k_arr) rfl hK hP hI.1 hI.2 hA (fun cA => rfl) hn hN hb hc hs hdg (fun q cA H1 hK1 hP1 hD1 hS1 => ?_)
  have e1 : s.vm.findClass ("[" ++ FieldType.int.toString) = some cA := (hK1.2 2 _ rfl).2
  have e2 : s.vm.findClass ("[" ++ FieldType.int.toString) = some G.2.1 := (hK.2 0 _ rfl).2
  have e3 : cA = G.2.1 := Option.some.inj (e1.symm.trans e2)
  subst e3
  rw [hw q] at hP1 hD1
  exact kk q C H1 locs ls hP1 ⟨hD1, hS1⟩ hl
theorem v_newr {x : Int32} {N index : Nat} {ws' : Nat → va_W} (hA : ∀ q : Nat, s.heap.size ≤ q → A q) (hO : va_AO RX0 s) (hcl : Cond.classLink own index RX0 ∈ tbG) (hdg : decode cc pc = .ok (.anewarray index, 3)) (hn : ¬ x < 0) (hN : x.toNatClampNeg = N) (hb : N * 4 ≤ 536870912) (hc : k + 1 ≤ R.cells) (hs : n + N ≤ R.slots) (hw : ∀ q, ws ++ [(q, .inl (G.2.2, N, .inr (.inr (.inr (.inr (fun _ => none))))))] = ws' q)
    (kk : ∀ q, V p l e R s m args below meth c Q G (v_Iw A s) cc own nL ret (ws' q) (k + 1) (n + N) lv (pc + 3) (.ref q :: st)) : V p l e R s m args below meth c Q G (v_Iw A s) cc own nL ret ws k n lv pc (.int x :: st) := fun C H locs ls hP hI hl => by
  have hK := C.2.2.2.2.2.1.1
  refine va_newq C.1 C.2.1 C.2.2.2.1 (C.2.2.2.2.1 _ hcl) hO hK hP hI.1 hI.2 hA hn hN hb hc hs hdg (fun q cA H1 hK1 hP1 hD1 hS1 => ?_)
  obtain ⟨-, -, -, -, -, e1⟩ := (hK1.2 2 _ rfl).2
  obtain ⟨-, -, -, -, -, e2⟩ := (hK.2 1 _ rfl).2
  have e3 : cA = G.2.2 := Option.some.inj (e1.symm.trans e2)
  subst e3
  rw [hw q] at hP1 hD1
  exact kk q C H1 locs ls hP1 ⟨hD1, hS1⟩ hl
theorem v_putF {a index ci k0 : Nat} {fs : List Value} {v : Value} {t : FieldType} {ws' : va_W} (h : v_FF own index ci k0 t) (him : meth.name = "<init>") (hdg : decode cc pc = .ok (.putfield index, 3)) (hnr : narrow t v = v) (hft : fits t v = true) (q0 : Nat) (he : ws[q0]? = some (a, .inr (ci, fs))) (hl0 : k0 < fs.length) (hw : ws.set q0 (a, .inr (ci, fs.set k0 v)) = ws')
    (kk : V p l e R s m args below meth c Q G (v_Iw A s) cc own nL ret ws' k n lv (pc + 3) st) : V p l e R s m args below meth c Q G (v_Iw A s) cc own nL ret ws k n lv pc (v :: .ref a :: st) := fun C H locs ls hP hI hl => by
  obtain ⟨Cn, T, N, ty, h1, h2, h3, h4, h5, h6, h7, h8, h9⟩ := h
  subst hw
  exact va_putF C.1 C.2.1 C.2.2.2.2.1 h2 ty h3 h4 C.2.2.2.1 C.2.2.2.2.2.1.1 hP hI.1 hI.2 q0 he h1 k0 h5 (C.2.2.2.2.1 _ h6) (fun _ h9 => h9) h7 him h8 h9 hnr hft hl0 hdg (fun H1 locs1 hP1 hD1 hS1 => kk C H1 locs1 ls hP1 ⟨hD1, hS1⟩ hl)
theorem v_newo {index ci N : Nat} {Cn : String} {T : u_T} {ty : Nat → FieldType} {fs : List Value} {ws' : Nat → va_W} (hA : ∀ q : Nat, s.heap.size ≤ q → A q) (hc0 : vwCl[ci]? = some (Cn, T, N)) (hin : ∀ w ∈ u_ws Cn T N, w ∈ tbG) (hty : ∀ k, k < N → parseFieldDescriptor (T k).2.2.1 = some (ty k)) (hcl : Cond.classLink own index Cn ∈ tbG) (hinst : Cond.instantiable Cn N ∈ tbG) (hini : Cond.initialized Cn ∈ tbG) (hfs : ∀ j, j < N → defaultValue (ty j) = vp_V fs j) (hdg : decode cc pc = .ok (.new index, 3)) (hc : k + 1 ≤ R.cells) (hs : n + N ≤ R.slots) (hw : ∀ q, ws ++ [(q, .inr (ci, fs))] = ws' q)
    (kk : ∀ q, V p l e R s m args below meth c Q G (v_Iw A s) cc own nL ret (ws' q) (k + 1) (n + N) lv (pc + 3) (.ref q :: st)) : V p l e R s m args below meth c Q G (v_Iw A s) cc own nL ret ws k n lv pc st := fun C H locs ls hP hI hl => by
  refine va_new (ci := ci) (fs := fs) C.1 C.2.1 C.2.2.2.2.1 hin ty hty C.2.2.2.1 (C.2.2.2.2.1 _ hcl) (C.2.2.2.2.1 _ hinst) (C.2.2.2.2.1 _ hini) C.2.2.2.2.2.1.1 hP hI.1 hI.2 hA hc0 hfs hc hs hdg (fun q H1 hP1 hD1 hS1 => ?_)
  rw [hw q] at hP1 hD1
  exact kk q C H1 locs ls hP1 ⟨hD1, hS1⟩ hl
theorem v_ast {a N v : Nat} {f : Nat → Option Nat} {i : Int32} {vs : List Value} {ws' : va_W} (hdg : decode cc pc = .ok (.aastore, 1)) (q0 : Nat) (he : ws[q0]? = some (a, .inl (G.2.2, N, .inr (.inr (.inr (.inr f)))))) (qk : Nat) (hv : ws[qk]? = some (v, .inr (0, vs))) (j : Nat) (hi : i = nI j) (hj : j < N) (hN : N < 2 ^ 31) (hw : ws.set q0 (a, .inl (G.2.2, N, .inr (.inr (.inr (.inr (va_up f j (some v))))))) = ws')
    (kk : V p l e R s m args below meth c Q G (v_Iw A s) cc own nL ret ws' k n lv (pc + 1) st) : V p l e R s m args below meth c Q G (v_Iw A s) cc own nL ret ws k n lv pc (.ref v :: .int i :: .ref a :: st) := fun C H locs ls hP hI hl => by
  subst hi
  subst hw
  refine va_astq (r := (RX0, TX0, 14)) C.1 C.2.1 C.2.2.2.2.2.1.1 hP hI.1 hI.2 q0 1 qk 0 he rfl hv rfl (vp_in_nI hj hN) hdg (fun H1 locs1 hP1 hD1 hS1 => ?_)
  rw [nI_clamp (Nat.lt_trans hj hN)] at hP1 hD1
  exact kk C H1 locs1 ls hP1 ⟨hD1, hS1⟩ hl
variable {y : MethodName} {ycc : ByteArray} {yn d na index mc ms : Nat}
def v_LI (own : String) (index : Nat) (y : MethodName) : Prop := Cond.methodLink own index y ∈ tbG ∧ Cond.instanceMethod y ∈ tbG ∧ y.name = "<init>"
theorem v_iMk {b : Nat} {As rest : List Value} {wc wr : va_W} {W1 : (Nat → Nat) → va_W} {ws' : (Nat → Nat) → va_W} (hA : ∀ q : Nat, s.heap.size ≤ q → A q) (hO : va_AO RX0 s) (hM : ∀ sz, MkV l G y ycc yn d mc ms (.ref b :: As) wc sz W1) (hY : v_Y y ycc yn none na) (hL : v_LI own index y) (hdg : decode cc pc = .ok (.invokespecial index, 3)) (isC isR : List Nat) (hC : isC.map (fun i => ws[i]?) = wc.map some) (hR : isR.map (fun i => ws[i]?) = wr.map some) (hnc : va_nd isC = true) (hnr : va_nd isR = true) (hdis : ∀ i ∈ isR, i ∉ isC) (hn : As.length = na) (hst : st = As.reverse ++ .ref b :: rest) (hW : (rest.map fun v => v.category).sum ≤ 8) (hRm : d + 1 ≤ R.frames ∧ 8 + (yn + 11) + 32 * d ≤ R.locals) (hf : k + mc ≤ R.cells ∧ n + ms ≤ R.slots) (hw : ∀ q, wr ++ W1 q = ws' q)
    (kk : ∀ q : Nat → Nat, V p l e R s m args below meth c Q G (v_Iw A s) cc own nL ret (ws' q) (k + mc) (n + ms) lv (pc + 3) rest) : V p l e R s m args below meth c Q G (v_Iw A s) cc own nL ret ws k n lv pc st := fun C H locs ls hP hI hl => by
  subst hst
  have hF := va_free hI.1 hI.2 hA isC hC
  have hrun := va_runI (As := As) (rest := rest) (g := F0 m pc ls (As.reverse ++ .ref b :: rest)) (cells := k) (slots := n) (locs := locs) (H := H) (R := R) (p := p) (e := e) (below := below) (meth := meth) ⟨C.1, C.2.1, C.2.2.1, C.2.2.2.1, C.2.2.2.2.1⟩ (hM H.size) (cwI na C.2.2.2.2.1 (v_goodIn hY.1) rfl rfl rfl (C.2.2.2.2.1 _ hY.2.1) (C.2.2.2.2.1 _ hL.1) (C.2.2.2.2.1 _ hL.2.1) hL.2.2 ⟨hY.2.2.1, hY.2.2.2.1, hY.2.2.2.2⟩ hRm) ⟨fun _ _ _ _ q => ⟨q.1, q.2.1, q.2.2.1, q.2.2.2.1, xK.same rfl q.2.2.2.2.1, q.2.2.2.2.2⟩, fun U hU hW => ⟨rfl, by rw [hU], by rw [hU]; exact v_part hP isC hC, (hI.1.sub isC hnc hC).weaken (fun _ _ _ _ => trivial), xK.warm hW C.2.2.2.2.2.1, va_AO.moved hW.alike hO⟩⟩ rfl hn hl.1 rfl (lv_room hW) hdg hf
  intro T hT X
  obtain ⟨v, st₀, t, T', L, h0, X', hL2, e1, e2, ⟨ho, q, hp1, hd1, hz, hk⟩, stp⟩ := hrun T hT X
  cases ho
  rw [h0] at hz hk
  have hkk : ∀ q : Nat, q < H.size → ¬ va_A wc H.size q → T'.heap[q]? = H[q]? := fun q h1 h2 => by rw [e1]; exact hk q h1 h2
  obtain ⟨hPj, hDj⟩ := va_join hP hI.1 isC isR hC hR hnr hdis hkk hF (by rw [e1]; exact hp1) hd1
  rw [hw q] at hPj hDj
  have hS1 : va_S A s.heap T'.heap (locs ++ L) := ⟨Nat.le_trans hI.2.1 (by rw [e1]; exact hz), fun q h1 h2 => by rw [hkk q (Nat.lt_of_lt_of_le h1 hI.2.1) (fun z => h2 (hF q z))]; exact hI.2.2.1 q h1 h2, fun q hq => (List.mem_append.mp hq).elim (hI.2.2.2 q) (fun h => hF _ (hL2 q h))⟩
  obtain ⟨t2, a1, b1⟩ := kk q C T'.heap (locs ++ L) ls hPj ⟨hDj, hS1⟩ hl T' rfl X'
  exact ⟨t2, stp t2 a1, b1⟩
theorem v_vretK {w : va_W} {sz : Nat} {W1 : (Nat → Nat) → va_W} (hdg : decode cc pc = .ok (.return_, 1)) (is : List Nat) (hnd : va_nd is = true) (q : Nat → Nat) (hw : is.map (fun i => ws[i]?) = (W1 q).map some) : V p l e R s m args below meth c (MQ below (v_Qk G w sz W1) args s k n (va_A w sz)) G (v_Iw (va_A w sz) s) cc own nL none ws k n lv pc [] := fun C H locs ls hP hI hl =>
  W.vret (hlocks := C.2.2.2.2.2.2.1) C.1 C.2.1 C.2.2.2.2.2.2.2 (fun t ht _ => ⟨rfl, q, by rw [ht]; exact v_part hP is hw, hI.1.sub is hnd hw, hI.2.F ht⟩) hI.2.2.2 hdg
end VK

theorem oiX0 : Cond.methodLink RX0 3 Lib.objectInit ∈ tbG := tb_1 (i := 111) (by decide +kernel) rfl
theorem oiX1 : Cond.methodLink RX1 3 Lib.objectInit ∈ tbG := tb_1 (i := 80) (by decide +kernel) rfl
theorem oiX2 : Cond.methodLink RX2 3 Lib.objectInit ∈ tbG := tb_1 (i := 20) (by decide +kernel) rfl
theorem oiX3 : Cond.methodLink RX3 1 Lib.objectInit ∈ tbG := tb_1 (i := 12) (by decide +kernel) rfl
theorem oiX4 : Cond.methodLink RX4 1 Lib.objectInit ∈ tbG := tb_2 (i := 119) (by decide +kernel) rfl
theorem ffX2_9 : v_FF RX2 9 2 0 (.array .int) := ⟨RX2, TX2, 11, tyX2, rfl, inX2, tyX2_ok, nmX2, by decide, tb_1 (i := 21) (by decide +kernel) rfl, rfl, rfl, by decide +kernel⟩
theorem ffX2_15 : v_FF RX2 15 2 1 (.array .int) := ⟨RX2, TX2, 11, tyX2, rfl, inX2, tyX2_ok, nmX2, by decide, tb_1 (i := 24) (by decide +kernel) rfl, rfl, rfl, by decide +kernel⟩
theorem ffX2_18 : v_FF RX2 18 2 2 (.array .int) := ⟨RX2, TX2, 11, tyX2, rfl, inX2, tyX2_ok, nmX2, by decide, tb_1 (i := 27) (by decide +kernel) rfl, rfl, rfl, by decide +kernel⟩
theorem ffX2_21 : v_FF RX2 21 2 3 (.array .int) := ⟨RX2, TX2, 11, tyX2, rfl, inX2, tyX2_ok, nmX2, by decide, tb_1 (i := 30) (by decide +kernel) rfl, rfl, rfl, by decide +kernel⟩
theorem ffX2_24 : v_FF RX2 24 2 4 (.array .int) := ⟨RX2, TX2, 11, tyX2, rfl, inX2, tyX2_ok, nmX2, by decide, tb_1 (i := 33) (by decide +kernel) rfl, rfl, rfl, by decide +kernel⟩
theorem ffX1_9 : v_FF RX1 9 1 0 (.array .int) := ⟨RX1, TX1, 6, tyX1, rfl, inX1, tyX1_ok, nmX1, by decide, tb_1 (i := 81) (by decide +kernel) rfl, rfl, rfl, by decide +kernel⟩
theorem ffX1_15 : v_FF RX1 15 1 1 (.array .int) := ⟨RX1, TX1, 6, tyX1, rfl, inX1, tyX1_ok, nmX1, by decide, tb_1 (i := 83) (by decide +kernel) rfl, rfl, rfl, by decide +kernel⟩
theorem ffX1_18 : v_FF RX1 18 1 2 (.array .int) := ⟨RX1, TX1, 6, tyX1, rfl, inX1, tyX1_ok, nmX1, by decide, tb_1 (i := 85) (by decide +kernel) rfl, rfl, rfl, by decide +kernel⟩
theorem ffX1_21 : v_FF RX1 21 1 3 (.array .int) := ⟨RX1, TX1, 6, tyX1, rfl, inX1, tyX1_ok, nmX1, by decide, tb_1 (i := 87) (by decide +kernel) rfl, rfl, rfl, by decide +kernel⟩
theorem ffX0_33 : v_FF RX0 33 0 0 (.object "WaterMeadows$Orders") := ⟨RX0, TX0, 14, tyX0, rfl, inX0, tyX0_ok, nmX0, by decide, tb_1 (i := 112) (by decide +kernel) rfl, rfl, rfl, by decide +kernel⟩
theorem ffX0_37 : v_FF RX0 37 0 1 .int := ⟨RX0, TX0, 14, tyX0, rfl, inX0, tyX0_ok, nmX0, by decide, tb_1 (i := 113) (by decide +kernel) rfl, rfl, rfl, by decide +kernel⟩
theorem ffX0_9 : v_FF RX0 9 0 2 (.array .int) := ⟨RX0, TX0, 14, tyX0, rfl, inX0, tyX0_ok, nmX0, by decide, tb_1 (i := 114) (by decide +kernel) rfl, rfl, rfl, by decide +kernel⟩
theorem ffX0_15 : v_FF RX0 15 0 3 (.array .int) := ⟨RX0, TX0, 14, tyX0, rfl, inX0, tyX0_ok, nmX0, by decide, tb_1 (i := 116) (by decide +kernel) rfl, rfl, rfl, by decide +kernel⟩
theorem ffX0_18 : v_FF RX0 18 0 4 (.array .int) := ⟨RX0, TX0, 14, tyX0, rfl, inX0, tyX0_ok, nmX0, by decide, tb_1 (i := 118) (by decide +kernel) rfl, rfl, rfl, by decide +kernel⟩
theorem ffX0_21 : v_FF RX0 21 0 5 (.array .int) := ⟨RX0, TX0, 14, tyX0, rfl, inX0, tyX0_ok, nmX0, by decide, tb_1 (i := 120) (by decide +kernel) rfl, rfl, rfl, by decide +kernel⟩
theorem ffX0_24 : v_FF RX0 24 0 6 (.array .int) := ⟨RX0, TX0, 14, tyX0, rfl, inX0, tyX0_ok, nmX0, by decide, tb_1 (i := 122) (by decide +kernel) rfl, rfl, rfl, by decide +kernel⟩
theorem ffX0_27 : v_FF RX0 27 0 7 (.array .int) := ⟨RX0, TX0, 14, tyX0, rfl, inX0, tyX0_ok, nmX0, by decide, tb_1 (i := 124) (by decide +kernel) rfl, rfl, rfl, by decide +kernel⟩
theorem ffX0_30 : v_FF RX0 30 0 8 (.array .int) := ⟨RX0, TX0, 14, tyX0, rfl, inX0, tyX0_ok, nmX0, by decide, tb_1 (i := 126) (by decide +kernel) rfl, rfl, rfl, by decide +kernel⟩
theorem ffX3_10 : v_FF RX3 10 3 0 (.object "WaterMeadows$Orders") := ⟨RX3, TX3, 6, tyX3, rfl, inX3, tyX3_ok, nmX3, by decide, tb_1 (i := 168) (by decide +kernel) rfl, rfl, rfl, by decide +kernel⟩
theorem ffX3_19 : v_FF RX3 19 3 1 (.object "WaterMeadows$Ledger") := ⟨RX3, TX3, 6, tyX3, rfl, inX3, tyX3_ok, nmX3, by decide, tb_1 (i := 169) (by decide +kernel) rfl, rfl, rfl, by decide +kernel⟩
theorem ffX3_28 : v_FF RX3 28 3 2 (.object "WaterMeadows$Course") := ⟨RX3, TX3, 6, tyX3, rfl, inX3, tyX3_ok, nmX3, by decide, tb_1 (i := 170) (by decide +kernel) rfl, rfl, rfl, by decide +kernel⟩
theorem ffX3_32 : v_FF RX3 32 3 3 (.array (.object "WaterMeadows$Course")) := ⟨RX3, TX3, 6, tyX3, rfl, inX3, tyX3_ok, nmX3, by decide, tb_1 (i := 171) (by decide +kernel) rfl, rfl, rfl, by decide +kernel⟩
theorem ffX4_16 : v_FF RX4 16 4 8 (.array .int) := ⟨RX4, TX4, 29, tyX4, rfl, inX4, tyX4_ok, nmX4, by decide, tb_2 (i := 128) (by decide +kernel) rfl, rfl, rfl, by decide +kernel⟩
theorem ffX4_20 : v_FF RX4 20 4 9 (.array .int) := ⟨RX4, TX4, 29, tyX4, rfl, inX4, tyX4_ok, nmX4, by decide, tb_2 (i := 129) (by decide +kernel) rfl, rfl, rfl, by decide +kernel⟩
theorem ffX4_23 : v_FF RX4 23 4 10 (.array .int) := ⟨RX4, TX4, 29, tyX4, rfl, inX4, tyX4_ok, nmX4, by decide, tb_2 (i := 130) (by decide +kernel) rfl, rfl, rfl, by decide +kernel⟩
theorem ffX4_26 : v_FF RX4 26 4 11 (.array .int) := ⟨RX4, TX4, 29, tyX4, rfl, inX4, tyX4_ok, nmX4, by decide, tb_2 (i := 131) (by decide +kernel) rfl, rfl, rfl, by decide +kernel⟩
theorem ffX4_29 : v_FF RX4 29 4 12 (.array .int) := ⟨RX4, TX4, 29, tyX4, rfl, inX4, tyX4_ok, nmX4, by decide, tb_2 (i := 132) (by decide +kernel) rfl, rfl, rfl, by decide +kernel⟩
theorem ffX4_32 : v_FF RX4 32 4 13 (.array .int) := ⟨RX4, TX4, 29, tyX4, rfl, inX4, tyX4_ok, nmX4, by decide, tb_2 (i := 133) (by decide +kernel) rfl, rfl, rfl, by decide +kernel⟩
theorem ffX4_35 : v_FF RX4 35 4 14 (.array .int) := ⟨RX4, TX4, 29, tyX4, rfl, inX4, tyX4_ok, nmX4, by decide, tb_2 (i := 134) (by decide +kernel) rfl, rfl, rfl, by decide +kernel⟩
theorem ffX4_38 : v_FF RX4 38 4 15 (.array .int) := ⟨RX4, TX4, 29, tyX4, rfl, inX4, tyX4_ok, nmX4, by decide, tb_2 (i := 135) (by decide +kernel) rfl, rfl, rfl, by decide +kernel⟩
theorem ffX4_41 : v_FF RX4 41 4 16 (.array .int) := ⟨RX4, TX4, 29, tyX4, rfl, inX4, tyX4_ok, nmX4, by decide, tb_2 (i := 136) (by decide +kernel) rfl, rfl, rfl, by decide +kernel⟩
theorem ffX4_44 : v_FF RX4 44 4 17 (.array .int) := ⟨RX4, TX4, 29, tyX4, rfl, inX4, tyX4_ok, nmX4, by decide, tb_2 (i := 137) (by decide +kernel) rfl, rfl, rfl, by decide +kernel⟩
theorem ffX4_47 : v_FF RX4 47 4 18 (.array .int) := ⟨RX4, TX4, 29, tyX4, rfl, inX4, tyX4_ok, nmX4, by decide, tb_2 (i := 138) (by decide +kernel) rfl, rfl, rfl, by decide +kernel⟩
theorem ffX4_50 : v_FF RX4 50 4 19 (.array .int) := ⟨RX4, TX4, 29, tyX4, rfl, inX4, tyX4_ok, nmX4, by decide, tb_2 (i := 139) (by decide +kernel) rfl, rfl, rfl, by decide +kernel⟩
theorem ffX4_53 : v_FF RX4 53 4 20 (.array .int) := ⟨RX4, TX4, 29, tyX4, rfl, inX4, tyX4_ok, nmX4, by decide, tb_2 (i := 140) (by decide +kernel) rfl, rfl, rfl, by decide +kernel⟩
theorem ffX4_56 : v_FF RX4 56 4 21 (.array .int) := ⟨RX4, TX4, 29, tyX4, rfl, inX4, tyX4_ok, nmX4, by decide, tb_2 (i := 141) (by decide +kernel) rfl, rfl, rfl, by decide +kernel⟩
theorem ffX4_59 : v_FF RX4 59 4 22 (.array .int) := ⟨RX4, TX4, 29, tyX4, rfl, inX4, tyX4_ok, nmX4, by decide, tb_2 (i := 142) (by decide +kernel) rfl, rfl, rfl, by decide +kernel⟩
theorem ffX4_62 : v_FF RX4 62 4 25 (.array .int) := ⟨RX4, TX4, 29, tyX4, rfl, inX4, tyX4_ok, nmX4, by decide, tb_2 (i := 145) (by decide +kernel) rfl, rfl, rfl, by decide +kernel⟩
theorem ffX4_65 : v_FF RX4 65 4 26 (.array .int) := ⟨RX4, TX4, 29, tyX4, rfl, inX4, tyX4_ok, nmX4, by decide, tb_2 (i := 146) (by decide +kernel) rfl, rfl, rfl, by decide +kernel⟩
theorem ffX4_68 : v_FF RX4 68 4 27 (.array .int) := ⟨RX4, TX4, 29, tyX4, rfl, inX4, tyX4_ok, nmX4, by decide, tb_2 (i := 147) (by decide +kernel) rfl, rfl, rfl, by decide +kernel⟩
theorem ffX4_71 : v_FF RX4 71 4 28 (.array .int) := ⟨RX4, TX4, 29, tyX4, rfl, inX4, tyX4_ok, nmX4, by decide, tb_2 (i := 148) (by decide +kernel) rfl, rfl, rfl, by decide +kernel⟩
theorem liX3_9 : v_LI RX3 9 yX2_init := ⟨tb_1 (i := 17) (by decide +kernel) rfl, tb_1 (i := 18) (by decide +kernel) rfl, rfl⟩
theorem liX3_18 : v_LI RX3 18 yX1_init := ⟨tb_1 (i := 77) (by decide +kernel) rfl, tb_1 (i := 78) (by decide +kernel) rfl, rfl⟩
theorem liX3_25 : v_LI RX3 25 yX0_init := ⟨tb_1 (i := 108) (by decide +kernel) rfl, tb_1 (i := 109) (by decide +kernel) rfl, rfl⟩
theorem clX2 : Cond.classLink RX3 7 RX2 ∈ tbG := tb_1 (i := 15) (by decide +kernel) rfl
theorem clX1 : Cond.classLink RX3 16 RX1 ∈ tbG := tb_1 (i := 75) (by decide +kernel) rfl
theorem clX0 : Cond.classLink RX3 23 RX0 ∈ tbG := tb_1 (i := 106) (by decide +kernel) rfl
theorem insX0 : Cond.instantiable RX0 14 ∈ tbG := tb_1 (i := 107) (by decide +kernel) rfl
theorem iniX0 : Cond.initialized RX0 ∈ tbG := tb_1 (i := 4) (by decide +kernel) rfl
theorem insX1 : Cond.instantiable RX1 6 ∈ tbG := tb_1 (i := 76) (by decide +kernel) rfl
theorem iniX1 : Cond.initialized RX1 ∈ tbG := tb_1 (i := 3) (by decide +kernel) rfl
theorem insX2 : Cond.instantiable RX2 11 ∈ tbG := tb_1 (i := 16) (by decide +kernel) rfl
theorem iniX2 : Cond.initialized RX2 ∈ tbG := tb_1 (i := 2) (by decide +kernel) rfl
theorem insX3 : Cond.instantiable RX3 6 ∈ tbG := tb_1 (i := 8) (by decide +kernel) rfl
theorem iniX3 : Cond.initialized RX3 ∈ tbG := tb_1 (i := 1) (by decide +kernel) rfl
theorem insX4 : Cond.instantiable RX4 29 ∈ tbG := tb_2 (i := 115) (by decide +kernel) rfl
theorem iniX4 : Cond.initialized RX4 ∈ tbG := tb_1 (i := 5) (by decide +kernel) rfl

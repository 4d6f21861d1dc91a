/-! ===== the walk's own judgement: V, world, locals, pc and stack in the goal; contracts RdI (reads), MuI, MuV (writes in place) ===== -/
abbrev v_Cfg : Type := va_G × ClassId × ClassId
abbrev v_tys (G : v_Cfg) : List (ClassId × FieldType) := [(G.2.1, .int), (G.2.2, .object RX0)]
def v_n97 : Cond := .methodLinkNest RX0 97 yX3_placeOf RX3
def v_n54 : Cond := .methodLinkNest RX2 54 yX3_isWithin RX3
def xK (G : v_Cfg) (U : State) : Prop := va_K G.1 vwCl (v_tys G) U ∧ va_Nw v_n97 U ∧ va_Nw v_n54 U
theorem xK.warm {G : v_Cfg} {s U : State} (hW : s.WarmedH U.vm) (h : xK G s) : xK G U := ⟨va_K.moved hW.alike h.1, va_Nw.warmM hW h.2.1, va_Nw.warmM hW h.2.2⟩
theorem xK.same {G : v_Cfg} {s U : State} (e : s.vm = U.vm) (h : xK G s) : xK G U := ⟨va_K.moved (by rw [e]; exact Vm.Alike.refl _) h.1, va_Nw.same rfl e h.2.1, va_Nw.same rfl e h.2.2⟩
/-- the tables' words that stay true under every call -/
def tbG : List Cond := lw_tbl.filter goodWord
theorem tb_in {w : Cond} (h : w ∈ lw_tbl) (g : goodWord w = true) : w ∈ tbG := List.mem_filter.mpr ⟨h, g⟩
theorem tb_0 {w : Cond} {i : Nat} (h : (k2_sels lw_privs)[i]? = some w) (g : goodWord w = true) : w ∈ tbG := tb_in (List.mem_append_left _ (List.mem_of_getElem? h)) g
theorem tb_1 {w : Cond} {i : Nat} (h : tables_1_1[i]? = some w) (g : goodWord w = true) : w ∈ tbG := tb_in (List.mem_append_right _ (List.mem_append_left _ (List.mem_of_getElem? h))) g
theorem tb_2 {w : Cond} {i : Nat} (h : tables_1_2[i]? = some w) (g : goodWord w = true) : w ∈ tbG := tb_in (List.mem_append_right _ (List.mem_append_right _ (List.mem_append_left _ (List.mem_of_getElem? h)))) g
theorem tb_3 {w : Cond} {i : Nat} (h : tables_1_3[i]? = some w) (g : goodWord w = true) : w ∈ tbG := tb_in (List.mem_append_right _ (List.mem_append_right _ (List.mem_append_right _ (List.mem_of_getElem? h)))) g
theorem v_goodIn {y : MethodName} {cc : ByteArray} {n : Nat} {ret : Option FieldType} (h : Cond.code y cc n ret ∈ tbG) : GoodIn tbG (Cond.code y cc n ret :: tbG) := fun w hw => by
  have hm : w ∈ tbG := (List.mem_cons.mp hw).elim (fun e => e ▸ h) id
  exact ⟨hm, good_of_word (List.mem_filter.mp hm).2⟩
abbrev v_ws (y : MethodName) (cc : ByteArray) (n : Nat) (ret : Option FieldType) : List Cond := Cond.code y cc n ret :: tbG
def rmk (d : Nat) : Room := { frames := d, cells := 0, slots := 0, locals := 32 * d }
/-- the addresses of a world -/
def v_in (w : va_W) : Nat → Prop := fun q => ∃ (k : Nat) (e : va_E), w[k]? = some (q, e)
def v_Pr (G : v_Cfg) (av : List Value) (w : va_W) : Array Value → State → Prop := va_Pc av (fun U => va_P G.1 vwCl w U.heap ∧ xK G U)
def v_Pm (G : v_Cfg) (av : List Value) (w : va_W) : Array Value → State → Prop := va_Pc av (fun U => va_P G.1 vwCl w U.heap ∧ va_D (fun _ => True) w ∧ xK G U)
def v_Qi (G : v_Cfg) (r : Int32) (w w1 : va_W) : Array Value → State → Outcome → State → Prop := fun _ st o t => o = .returned (some (.int r)) ∧ va_P G.1 vwCl w1 t.heap ∧ va_F (v_in w) st t
def v_Qv (G : v_Cfg) (w w1 : va_W) : Array Value → State → Outcome → State → Prop := fun _ st o t => o = .returned none ∧ va_P G.1 vwCl w1 t.heap ∧ va_F (v_in w) st t
/-- a method that reads the cells w, and answers r -/
def RdI (l : Launch) (G : v_Cfg) (y : MethodName) (cc : ByteArray) (n : Nat) (ret : Option FieldType) (d : Nat) (av : List Value) (w : va_W) (r : Int32) : Prop := Met l y (v_ws y cc n ret) (rmk d) (v_Pr G av w) (vp_Si (fun x => x = r)) 0 0 (fun _ => False)
/-- a method that turns the cells w into w1 (the same addresses), and answers r -/
def MuI (l : Launch) (G : v_Cfg) (y : MethodName) (cc : ByteArray) (n : Nat) (ret : Option FieldType) (d : Nat) (av : List Value) (w w1 : va_W) (r : Int32) : Prop := Met l y (v_ws y cc n ret) (rmk d) (v_Pm G av w) (v_Qi G r w w1) 0 0 (v_in w)
def MuV (l : Launch) (G : v_Cfg) (y : MethodName) (cc : ByteArray) (n : Nat) (ret : Option FieldType) (d : Nat) (av : List Value) (w w1 : va_W) : Prop := Met l y (v_ws y cc n ret) (rmk d) (v_Pm G av w) (v_Qv G w w1) 0 0 (v_in w)
/-- what a walk keeps beside its world: a reader has changed nothing; a writer only its own cells -/
def v_Ir (s : State) (_ : va_W) (H : Heap) (locs : List Loc) : Prop := H = s.heap ∧ locs = []
def v_Iw (A : Nat → Prop) (s : State) (ws : va_W) (H : Heap) (locs : List Loc) : Prop := va_D A ws ∧ va_S A s.heap H locs
def V_ctx (p : Program) (s : State) (m : MethodId) (args : Array Value) (meth : Method) (c : Code) (G : v_Cfg) (cc : ByteArray) (own : String) (nL : Nat) (ret : Option FieldType) : Prop :=
  p.tables.exec = Jvm.exec ∧ c.code = cc ∧ c.maxLocals = nL ∧ s.vm.findClass own = some m.cls ∧ (∀ w ∈ tbG, w.before args s = true) ∧ xK G s ∧ meth.locks = false ∧ meth.sig.returnType = ret
def V (p : Program) (l : Launch) (e : Env) (R : Room) (s : State) (m : MethodId) (args : Array Value) (below : List Frame) (meth : Method) (c : Code) (Q : State → Prop) (G : v_Cfg) (I : va_W → Heap → List Loc → Prop) (cc : ByteArray) (own : String) (nL : Nat) (ret : Option FieldType) (ws : va_W) (k n : Nat) (lv : List (Nat × Value)) (pc : Nat) (st : List Value) : Prop :=
  V_ctx p s m args meth c G cc own nL ret → ∀ (H : Heap) (locs : List Loc) (ls : Array Slot), va_P G.1 vwCl ws H → I ws H locs → lv_has ls nL lv → W p l e R s m args below meth c H locs k n Q (F0 m pc ls st)
/-- what the tables say of a field: by the class that names it and its number there -/
def v_FL (own : String) (index ci k : Nat) : Prop := ∃ (C : String) (T : u_T) (N : Nat) (ty : Nat → FieldType), vwCl[ci]? = some (C, T, N) ∧ (∀ w ∈ u_ws C T N, w ∈ tbG) ∧ (∀ k, k < N → parseFieldDescriptor (T k).2.2.1 = some (ty k)) ∧ (∀ a, a < N → ∀ b, b < N → a ≠ b → (T a).2.1 ≠ (T b).2.1) ∧ k < N ∧ Cond.fieldLink own index (T k).1 (T k).2.1 (T k).2.2.1 ∈ tbG
def v_FP (own : String) (index ci k : Nat) : Prop := ∃ (C : String) (T : u_T) (N : Nat) (ty : Nat → FieldType), vwCl[ci]? = some (C, T, N) ∧ (∀ w ∈ u_ws C T N, w ∈ tbG) ∧ (∀ k, k < N → parseFieldDescriptor (T k).2.2.1 = some (ty k)) ∧ (∀ a, a < N → ∀ b, b < N → a ≠ b → (T a).2.1 ≠ (T b).2.1) ∧ k < N ∧ Cond.fieldLink own index (T k).1 (T k).2.1 (T k).2.2.1 ∈ tbG ∧ (T k).2.2.2 = false ∧ parseFieldDescriptor (T k).2.2.1 = some .int
def v_Y (y : MethodName) (cc : ByteArray) (n : Nat) (ret : Option FieldType) (na : Nat) : Prop := Cond.code y cc n ret ∈ tbG ∧ Cond.initialized y.cls ∈ tbG ∧ y.cls ≠ "java/lang/invoke/MethodHandle" ∧ y.cls ≠ "java/lang/invoke/VarHandle" ∧ (parseMethodDescriptor y.desc).map (fun d => d.parameters.length) = some na
def v_LV (own : String) (index : Nat) (y : MethodName) : Prop := Cond.methodLink own index y ∈ tbG ∧ Cond.instanceMethod y ∈ tbG ∧ Cond.selects y.cls y y ∈ tbG
def v_LS (own : String) (index : Nat) (y : MethodName) : Prop := Cond.methodLink own index y ∈ tbG ∧ Cond.static y ∈ tbG
/-- cells of the callee put back at their places -/
def v_put (ws : va_W) : List Nat → va_W → va_W
  | i :: is, c :: cs => v_put (ws.set i c) is cs
  | _, _ => ws
theorem v_put_src : ∀ (isC : List Nat) (w1 ws : va_W), isC.length = w1.length → ∀ (k : Nat) (q : Nat × va_E), (v_put ws isC w1)[k]? = some q → (∃ j : Nat, w1[j]? = some q) ∨ (ws[k]? = some q ∧ k ∉ isC)
  | [], [], ws, _, k, q, h => Or.inr ⟨h, List.not_mem_nil⟩
  | [], _ :: _, _, e, _, _, _ => by cases e
  | _ :: _, [], _, e, _, _, _ => by cases e
  | i :: is, c :: cs, ws, e, k, q, h => by
    rcases v_put_src is cs (ws.set i c) (Nat.succ.inj e) k q h with ⟨j, hj⟩ | ⟨h1, h2⟩
    · exact Or.inl ⟨j + 1, hj⟩
    · by_cases hki : k = i
      · subst hki
        rw [List.getElem?_set] at h1
        simp only [↓reduceIte] at h1
        split at h1
        · exact Or.inl ⟨0, h1⟩
        · cases h1
      · rw [List.getElem?_set_ne (fun q => hki q.symm)] at h1
        refine Or.inr ⟨h1, fun hm => ?_⟩
        rcases List.mem_cons.mp hm with h3 | h3
        · exact hki h3
        · exact h2 h3
theorem va_D.addr {A : Nat → Prop} {ws ws' : va_W} (h : va_D A ws) (e : ws'.map Prod.fst = ws.map Prod.fst) : va_D A ws' := by
  have key : ∀ (i : Nat) (x : Nat × va_E), ws'[i]? = some x → ∃ y, ws[i]? = some y ∧ y.1 = x.1 := by
    intro i x hx
    have h1 : (ws'.map Prod.fst)[i]? = some x.1 := by rw [List.getElem?_map, hx]; rfl
    rw [e, List.getElem?_map] at h1
    cases hy : ws[i]? with
    | none => rw [hy] at h1; cases h1
    | some y => rw [hy] at h1; exact ⟨y, rfl, Option.some.inj h1⟩
  refine ⟨fun i j x y hx hy hxy => ?_, fun k x hx => ?_⟩
  · obtain ⟨x', h1, h2⟩ := key i x hx
    obtain ⟨y', h3, h4⟩ := key j y hy
    exact h.1 i j x' y' h1 h3 (by rw [h2, h4]; exact hxy)
  · obtain ⟨x', h1, h2⟩ := key k x hx
    rw [← h2]; exact h.2 k x' h1
/-- what is behind a call: each cell is the callee's, or one that the callee did not have -/
theorem v_mixed {A : Nat → Prop} {D : va_G} {cl : List vw_C} {ws wc w1 ws' : va_W} {H H1 : Heap} (hP : va_P D cl ws H) (hD : va_D A ws) (isC : List Nat) (hC : isC.map (fun i => ws[i]?) = wc.map some) (hP1 : va_P D cl w1 H1) (hk : ∀ q : Nat, q < H.size → ¬ v_in wc q → H1[q]? = H[q]?)
    (hsrc : ∀ (k : Nat) (q : Nat × va_E), ws'[k]? = some q → (∃ j : Nat, w1[j]? = some q) ∨ (ws[k]? = some q ∧ k ∉ isC)) : va_P D cl ws' H1 := by
  intro k q hq
  rcases hsrc k q hq with ⟨j, hj⟩ | ⟨h1, h2⟩
  · exact hP1 j q hj
  · refine (hP k q h1).kept (hk q.1 (hP k q h1).lt ?_)
    rintro ⟨k2, e2, h⟩
    have h3 : (isC.map (fun i => ws[i]?))[k2]? = some (some (q.1, e2)) := by rw [hC, List.getElem?_map, h]; rfl
    rw [List.getElem?_map] at h3
    cases hi : isC[k2]? with
    | none => rw [hi] at h3; cases h3
    | some i =>
      rw [hi] at h3
      have hij := hD.1 k i q (q.1, e2) h1 (Option.some.inj h3) rfl
      subst hij
      exact h2 (List.mem_of_getElem? hi)
section VR
variable {p : Program} {l : Launch} {e : Env} {R : Room} {s : State} {m : MethodId} {args : Array Value} {below : List Frame} {meth : Method} {c : Code} {Q : State → Prop} {G : v_Cfg} {I : va_W → Heap → List Loc → Prop} {cc : ByteArray} {own : String} {nL : Nat} {ret : Option FieldType} {ws : va_W} {k n : Nat} {lv : List (Nat × Value)} {pc : Nat} {st : List Value}
theorem v_iconst {n0 : Int} {v : Int32} (hdg : decode cc pc = .ok (.iconst n0, 1)) (hv : Int32.ofInt n0 = v) (kk : V p l e R s m args below meth c Q G I cc own nL ret ws k n lv (pc + 1) (.int v :: st)) : V p l e R s m args below meth c Q G I cc own nL ret ws k n lv pc st := fun C H locs ls hP hI hl => lv_iconst C.1 C.2.1 hdg hv (kk C H locs ls hP hI hl)
theorem v_bipush {n0 : Int} {v : Int32} (hdg : decode cc pc = .ok (.bipush n0, 2)) (hv : (Int8.ofInt n0).toInt32 = v) (kk : V p l e R s m args below meth c Q G I cc own nL ret ws k n lv (pc + 2) (.int v :: st)) : V p l e R s m args below meth c Q G I cc own nL ret ws k n lv pc st := fun C H locs ls hP hI hl => lv_bipush C.1 C.2.1 hdg hv (kk C H locs ls hP hI hl)
theorem v_sipush {n0 : Int} {v : Int32} (hdg : decode cc pc = .ok (.sipush n0, 3)) (hv : (Int16.ofInt n0).toInt32 = v) (kk : V p l e R s m args below meth c Q G I cc own nL ret ws k n lv (pc + 3) (.int v :: st)) : V p l e R s m args below meth c Q G I cc own nL ret ws k n lv pc st := fun C H locs ls hP hI hl => lv_sipush C.1 C.2.1 hdg hv (kk C H locs ls hP hI hl)
theorem v_iload_n {j : Fin 4} {i : Nat} {x : Int32} (hdg : decode cc pc = .ok (.iload_n j, 1)) (hi : (j : Nat) = i) (q : Nat) (hq : lv[q]? = some (i, .int x)) (kk : V p l e R s m args below meth c Q G I cc own nL ret ws k n lv (pc + 1) (.int x :: st)) : V p l e R s m args below meth c Q G I cc own nL ret ws k n lv pc st := fun C H locs ls hP hI hl => lv_iload_n C.1 C.2.1 hdg hi (lv_at hl q hq) (kk C H locs ls hP hI hl)
theorem v_iload {i : Nat} {x : Int32} (hdg : decode cc pc = .ok (.iload i, 2)) (q : Nat) (hq : lv[q]? = some (i, .int x)) (kk : V p l e R s m args below meth c Q G I cc own nL ret ws k n lv (pc + 2) (.int x :: st)) : V p l e R s m args below meth c Q G I cc own nL ret ws k n lv pc st := fun C H locs ls hP hI hl => lv_iload C.1 C.2.1 hdg (lv_at hl q hq) (kk C H locs ls hP hI hl)
theorem v_aload_n {j : Fin 4} {i x : Nat} (hdg : decode cc pc = .ok (.aload_n j, 1)) (hi : (j : Nat) = i) (q : Nat) (hq : lv[q]? = some (i, .ref x)) (kk : V p l e R s m args below meth c Q G I cc own nL ret ws k n lv (pc + 1) (.ref x :: st)) : V p l e R s m args below meth c Q G I cc own nL ret ws k n lv pc st := fun C H locs ls hP hI hl => lv_aload_n C.1 C.2.1 hdg hi (lv_at hl q hq) (kk C H locs ls hP hI hl)
theorem v_aload {i x : Nat} (hdg : decode cc pc = .ok (.aload i, 2)) (q : Nat) (hq : lv[q]? = some (i, .ref x)) (kk : V p l e R s m args below meth c Q G I cc own nL ret ws k n lv (pc + 2) (.ref x :: st)) : V p l e R s m args below meth c Q G I cc own nL ret ws k n lv pc st := fun C H locs ls hP hI hl => lv_aload C.1 C.2.1 hdg (lv_at hl q hq) (kk C H locs ls hP hI hl)
theorem v_istore_n {j : Fin 4} {i : Nat} {x : Int32} {lv' : List (Nat × Value)} (hdg : decode cc pc = .ok (.istore_n j, 1)) (hi : (j : Nat) = i) (hn : i < nL) (hq : (i, Value.int x) :: lv.filter (fun q => !(q.1 == i) && !(q.1 + 1 == i && q.2.category == 2)) = lv') (kk : V p l e R s m args below meth c Q G I cc own nL ret ws k n lv' (pc + 1) st) : V p l e R s m args below meth c Q G I cc own nL ret ws k n lv pc (.int x :: st) := fun C H locs ls hP hI hl => lv_istore_n C.1 C.2.1 hdg hi hl hn hq (fun ls' hl' => kk C H locs ls' hP hI hl')
theorem v_istore {i : Nat} {x : Int32} {lv' : List (Nat × Value)} (hdg : decode cc pc = .ok (.istore i, 2)) (hn : i < nL) (hq : (i, Value.int x) :: lv.filter (fun q => !(q.1 == i) && !(q.1 + 1 == i && q.2.category == 2)) = lv') (kk : V p l e R s m args below meth c Q G I cc own nL ret ws k n lv' (pc + 2) st) : V p l e R s m args below meth c Q G I cc own nL ret ws k n lv pc (.int x :: st) := fun C H locs ls hP hI hl => lv_istore C.1 C.2.1 hdg hl hn hq (fun ls' hl' => kk C H locs ls' hP hI hl')
theorem v_astore_n {j : Fin 4} {i : Nat} {x : Nat} {lv' : List (Nat × Value)} (hdg : decode cc pc = .ok (.astore_n j, 1)) (hi : (j : Nat) = i) (hn : i < nL) (hq : (i, Value.ref x) :: lv.filter (fun q => !(q.1 == i) && !(q.1 + 1 == i && q.2.category == 2)) = lv') (kk : V p l e R s m args below meth c Q G I cc own nL ret ws k n lv' (pc + 1) st) : V p l e R s m args below meth c Q G I cc own nL ret ws k n lv pc (.ref x :: st) := fun C H locs ls hP hI hl => lv_astore_n C.1 C.2.1 hdg hi hl hn hq (fun ls' hl' => kk C H locs ls' hP hI hl')
theorem v_astore {i : Nat} {x : Nat} {lv' : List (Nat × Value)} (hdg : decode cc pc = .ok (.astore i, 2)) (hn : i < nL) (hq : (i, Value.ref x) :: lv.filter (fun q => !(q.1 == i) && !(q.1 + 1 == i && q.2.category == 2)) = lv') (kk : V p l e R s m args below meth c Q G I cc own nL ret ws k n lv' (pc + 2) st) : V p l e R s m args below meth c Q G I cc own nL ret ws k n lv pc (.ref x :: st) := fun C H locs ls hP hI hl => lv_astore C.1 C.2.1 hdg hl hn hq (fun ls' hl' => kk C H locs ls' hP hI hl')
theorem v_iinc {i q : Nat} {n0 : Int} {x v : Int32} {lv' : List (Nat × Value)} (hdg : decode cc pc = .ok (.iinc i n0, 3)) (hk : lv[q]? = some (i, .int x)) (hv : x + Int32.ofInt n0 = v) (hn : i < nL) (hq : (i, Value.int v) :: lv.filter (fun q => !(q.1 == i) && !(q.1 + 1 == i && q.2.category == 2)) = lv') (kk : V p l e R s m args below meth c Q G I cc own nL ret ws k n lv' (pc + 3) st) : V p l e R s m args below meth c Q G I cc own nL ret ws k n lv pc st := fun C H locs ls hP hI hl => lv_iinc C.1 C.2.1 hdg hl hk hv hn hq (fun ls' hl' => kk C H locs ls' hP hI hl')
theorem v_iadd {x y : Int32} (hdg : decode cc pc = .ok (.iadd, 1)) (kk : V p l e R s m args below meth c Q G I cc own nL ret ws k n lv (pc + 1) (.int (x + y) :: st)) : V p l e R s m args below meth c Q G I cc own nL ret ws k n lv pc (.int y :: .int x :: st) := fun C H locs ls hP hI hl => lv_iadd C.1 C.2.1 hdg (kk C H locs ls hP hI hl)
theorem v_isub {x y : Int32} (hdg : decode cc pc = .ok (.isub, 1)) (kk : V p l e R s m args below meth c Q G I cc own nL ret ws k n lv (pc + 1) (.int (x - y) :: st)) : V p l e R s m args below meth c Q G I cc own nL ret ws k n lv pc (.int y :: .int x :: st) := fun C H locs ls hP hI hl => lv_isub C.1 C.2.1 hdg (kk C H locs ls hP hI hl)
theorem v_imul {x y : Int32} (hdg : decode cc pc = .ok (.imul, 1)) (kk : V p l e R s m args below meth c Q G I cc own nL ret ws k n lv (pc + 1) (.int (x * y) :: st)) : V p l e R s m args below meth c Q G I cc own nL ret ws k n lv pc (.int y :: .int x :: st) := fun C H locs ls hP hI hl => lv_imul C.1 C.2.1 hdg (kk C H locs ls hP hI hl)
theorem v_iand {x y : Int32} (hdg : decode cc pc = .ok (.iand, 1)) (kk : V p l e R s m args below meth c Q G I cc own nL ret ws k n lv (pc + 1) (.int (x &&& y) :: st)) : V p l e R s m args below meth c Q G I cc own nL ret ws k n lv pc (.int y :: .int x :: st) := fun C H locs ls hP hI hl => lv_iand C.1 C.2.1 hdg (kk C H locs ls hP hI hl)
theorem v_ior {x y : Int32} (hdg : decode cc pc = .ok (.ior, 1)) (kk : V p l e R s m args below meth c Q G I cc own nL ret ws k n lv (pc + 1) (.int (x ||| y) :: st)) : V p l e R s m args below meth c Q G I cc own nL ret ws k n lv pc (.int y :: .int x :: st) := fun C H locs ls hP hI hl => lv_ior C.1 C.2.1 hdg (kk C H locs ls hP hI hl)
theorem v_idiv {x y : Int32} (hdg : decode cc pc = .ok (.idiv, 1)) (hne : ¬ y = 0) (kk : V p l e R s m args below meth c Q G I cc own nL ret ws k n lv (pc + 1) (.int (x / y) :: st)) : V p l e R s m args below meth c Q G I cc own nL ret ws k n lv pc (.int y :: .int x :: st) := fun C H locs ls hP hI hl => lv_idiv C.1 C.2.1 hdg hne (kk C H locs ls hP hI hl)
theorem v_irem {x y : Int32} (hdg : decode cc pc = .ok (.irem, 1)) (hne : ¬ y = 0) (kk : V p l e R s m args below meth c Q G I cc own nL ret ws k n lv (pc + 1) (.int (x - x / y * y) :: st)) : V p l e R s m args below meth c Q G I cc own nL ret ws k n lv pc (.int y :: .int x :: st) := fun C H locs ls hP hI hl => lv_irem C.1 C.2.1 hdg hne (kk C H locs ls hP hI hl)
theorem v_dup {va : Value} (hdg : decode cc pc = .ok (.dup, 1)) (hva : va.category = 1) (kk : V p l e R s m args below meth c Q G I cc own nL ret ws k n lv (pc + 1) (va :: va :: st)) : V p l e R s m args below meth c Q G I cc own nL ret ws k n lv pc (va :: st) := fun C H locs ls hP hI hl => lv_dup C.1 C.2.1 hdg hva (kk C H locs ls hP hI hl)
theorem v_pop {va : Value} (hdg : decode cc pc = .ok (.pop, 1)) (hva : va.category = 1) (kk : V p l e R s m args below meth c Q G I cc own nL ret ws k n lv (pc + 1) st) : V p l e R s m args below meth c Q G I cc own nL ret ws k n lv pc (va :: st) := fun C H locs ls hP hI hl => lv_pop C.1 C.2.1 hdg hva (kk C H locs ls hP hI hl)
theorem v_dup2 {va vb : Value} (hdg : decode cc pc = .ok (.dup2, 1)) (hva : va.category = 1) (hvb : vb.category = 1) (kk : V p l e R s m args below meth c Q G I cc own nL ret ws k n lv (pc + 1) (va :: vb :: va :: vb :: st)) : V p l e R s m args below meth c Q G I cc own nL ret ws k n lv pc (va :: vb :: st) := fun C H locs ls hP hI hl => lv_dup2_11 C.1 C.2.1 hdg hva hvb (kk C H locs ls hP hI hl)
theorem v_dup_x1 {va vb : Value} (hdg : decode cc pc = .ok (.dup_x1, 1)) (hva : va.category = 1) (hvb : vb.category = 1) (kk : V p l e R s m args below meth c Q G I cc own nL ret ws k n lv (pc + 1) (va :: vb :: va :: st)) : V p l e R s m args below meth c Q G I cc own nL ret ws k n lv pc (va :: vb :: st) := fun C H locs ls hP hI hl => lv_dup_x1 C.1 C.2.1 hdg hva hvb (kk C H locs ls hP hI hl)
theorem v_ishl {x y : Int32} (hdg : decode cc pc = .ok (.ishl, 1)) (kk : V p l e R s m args below meth c Q G I cc own nL ret ws k n lv (pc + 1) (.int (x <<< (y &&& 31)) :: st)) : V p l e R s m args below meth c Q G I cc own nL ret ws k n lv pc (.int y :: .int x :: st) := fun C H locs ls hP hI hl => lv_ishl C.1 C.2.1 hdg (kk C H locs ls hP hI hl)
theorem v_if_eq {x : Int32} {off : Int} {tgt : Nat} (hdg : decode cc pc = .ok (.ifCond .eq off, 3)) (ht : (pc : Int) + off = (tgt : Int)) (kt : x = 0 → V p l e R s m args below meth c Q G I cc own nL ret ws k n lv tgt st) (kf : ¬ x = 0 → V p l e R s m args below meth c Q G I cc own nL ret ws k n lv (pc + 3) st) : V p l e R s m args below meth c Q G I cc own nL ret ws k n lv pc (.int x :: st) := fun C H locs ls hP hI hl => lv_if_eq C.1 C.2.1 hdg ht (fun h => kt h C H locs ls hP hI hl) (fun h => kf h C H locs ls hP hI hl)
theorem v_icmp_eq {x y : Int32} {off : Int} {tgt : Nat} (hdg : decode cc pc = .ok (.if_icmp .eq off, 3)) (ht : (pc : Int) + off = (tgt : Int)) (kt : x = y → V p l e R s m args below meth c Q G I cc own nL ret ws k n lv tgt st) (kf : ¬ x = y → V p l e R s m args below meth c Q G I cc own nL ret ws k n lv (pc + 3) st) : V p l e R s m args below meth c Q G I cc own nL ret ws k n lv pc (.int y :: .int x :: st) := fun C H locs ls hP hI hl => lv_icmp_eq C.1 C.2.1 hdg ht (fun h => kt h C H locs ls hP hI hl) (fun h => kf h C H locs ls hP hI hl)
theorem v_if_ne {x : Int32} {off : Int} {tgt : Nat} (hdg : decode cc pc = .ok (.ifCond .ne off, 3)) (ht : (pc : Int) + off = (tgt : Int)) (kt : ¬ x = 0 → V p l e R s m args below meth c Q G I cc own nL ret ws k n lv tgt st) (kf : x = 0 → V p l e R s m args below meth c Q G I cc own nL ret ws k n lv (pc + 3) st) : V p l e R s m args below meth c Q G I cc own nL ret ws k n lv pc (.int x :: st) := fun C H locs ls hP hI hl => lv_if_ne C.1 C.2.1 hdg ht (fun h => kt h C H locs ls hP hI hl) (fun h => kf h C H locs ls hP hI hl)
theorem v_icmp_ne {x y : Int32} {off : Int} {tgt : Nat} (hdg : decode cc pc = .ok (.if_icmp .ne off, 3)) (ht : (pc : Int) + off = (tgt : Int)) (kt : ¬ x = y → V p l e R s m args below meth c Q G I cc own nL ret ws k n lv tgt st) (kf : x = y → V p l e R s m args below meth c Q G I cc own nL ret ws k n lv (pc + 3) st) : V p l e R s m args below meth c Q G I cc own nL ret ws k n lv pc (.int y :: .int x :: st) := fun C H locs ls hP hI hl => lv_icmp_ne C.1 C.2.1 hdg ht (fun h => kt h C H locs ls hP hI hl) (fun h => kf h C H locs ls hP hI hl)
theorem v_if_lt {x : Int32} {off : Int} {tgt : Nat} (hdg : decode cc pc = .ok (.ifCond .lt off, 3)) (ht : (pc : Int) + off = (tgt : Int)) (kt : x < 0 → V p l e R s m args below meth c Q G I cc own nL ret ws k n lv tgt st) (kf : ¬ x < 0 → V p l e R s m args below meth c Q G I cc own nL ret ws k n lv (pc + 3) st) : V p l e R s m args below meth c Q G I cc own nL ret ws k n lv pc (.int x :: st) := fun C H locs ls hP hI hl => lv_if_lt C.1 C.2.1 hdg ht (fun h => kt h C H locs ls hP hI hl) (fun h => kf h C H locs ls hP hI hl)
theorem v_icmp_lt {x y : Int32} {off : Int} {tgt : Nat} (hdg : decode cc pc = .ok (.if_icmp .lt off, 3)) (ht : (pc : Int) + off = (tgt : Int)) (kt : x < y → V p l e R s m args below meth c Q G I cc own nL ret ws k n lv tgt st) (kf : ¬ x < y → V p l e R s m args below meth c Q G I cc own nL ret ws k n lv (pc + 3) st) : V p l e R s m args below meth c Q G I cc own nL ret ws k n lv pc (.int y :: .int x :: st) := fun C H locs ls hP hI hl => lv_icmp_lt C.1 C.2.1 hdg ht (fun h => kt h C H locs ls hP hI hl) (fun h => kf h C H locs ls hP hI hl)
theorem v_if_ge {x : Int32} {off : Int} {tgt : Nat} (hdg : decode cc pc = .ok (.ifCond .ge off, 3)) (ht : (pc : Int) + off = (tgt : Int)) (kt : 0 ≤ x → V p l e R s m args below meth c Q G I cc own nL ret ws k n lv tgt st) (kf : ¬ 0 ≤ x → V p l e R s m args below meth c Q G I cc own nL ret ws k n lv (pc + 3) st) : V p l e R s m args below meth c Q G I cc own nL ret ws k n lv pc (.int x :: st) := fun C H locs ls hP hI hl => lv_if_ge C.1 C.2.1 hdg ht (fun h => kt h C H locs ls hP hI hl) (fun h => kf h C H locs ls hP hI hl)
theorem v_icmp_ge {x y : Int32} {off : Int} {tgt : Nat} (hdg : decode cc pc = .ok (.if_icmp .ge off, 3)) (ht : (pc : Int) + off = (tgt : Int)) (kt : y ≤ x → V p l e R s m args below meth c Q G I cc own nL ret ws k n lv tgt st) (kf : ¬ y ≤ x → V p l e R s m args below meth c Q G I cc own nL ret ws k n lv (pc + 3) st) : V p l e R s m args below meth c Q G I cc own nL ret ws k n lv pc (.int y :: .int x :: st) := fun C H locs ls hP hI hl => lv_icmp_ge C.1 C.2.1 hdg ht (fun h => kt h C H locs ls hP hI hl) (fun h => kf h C H locs ls hP hI hl)
theorem v_if_gt {x : Int32} {off : Int} {tgt : Nat} (hdg : decode cc pc = .ok (.ifCond .gt off, 3)) (ht : (pc : Int) + off = (tgt : Int)) (kt : 0 < x → V p l e R s m args below meth c Q G I cc own nL ret ws k n lv tgt st) (kf : ¬ 0 < x → V p l e R s m args below meth c Q G I cc own nL ret ws k n lv (pc + 3) st) : V p l e R s m args below meth c Q G I cc own nL ret ws k n lv pc (.int x :: st) := fun C H locs ls hP hI hl => lv_if_gt C.1 C.2.1 hdg ht (fun h => kt h C H locs ls hP hI hl) (fun h => kf h C H locs ls hP hI hl)
theorem v_icmp_gt {x y : Int32} {off : Int} {tgt : Nat} (hdg : decode cc pc = .ok (.if_icmp .gt off, 3)) (ht : (pc : Int) + off = (tgt : Int)) (kt : y < x → V p l e R s m args below meth c Q G I cc own nL ret ws k n lv tgt st) (kf : ¬ y < x → V p l e R s m args below meth c Q G I cc own nL ret ws k n lv (pc + 3) st) : V p l e R s m args below meth c Q G I cc own nL ret ws k n lv pc (.int y :: .int x :: st) := fun C H locs ls hP hI hl => lv_icmp_gt C.1 C.2.1 hdg ht (fun h => kt h C H locs ls hP hI hl) (fun h => kf h C H locs ls hP hI hl)
theorem v_if_le {x : Int32} {off : Int} {tgt : Nat} (hdg : decode cc pc = .ok (.ifCond .le off, 3)) (ht : (pc : Int) + off = (tgt : Int)) (kt : x ≤ 0 → V p l e R s m args below meth c Q G I cc own nL ret ws k n lv tgt st) (kf : ¬ x ≤ 0 → V p l e R s m args below meth c Q G I cc own nL ret ws k n lv (pc + 3) st) : V p l e R s m args below meth c Q G I cc own nL ret ws k n lv pc (.int x :: st) := fun C H locs ls hP hI hl => lv_if_le C.1 C.2.1 hdg ht (fun h => kt h C H locs ls hP hI hl) (fun h => kf h C H locs ls hP hI hl)
theorem v_icmp_le {x y : Int32} {off : Int} {tgt : Nat} (hdg : decode cc pc = .ok (.if_icmp .le off, 3)) (ht : (pc : Int) + off = (tgt : Int)) (kt : x ≤ y → V p l e R s m args below meth c Q G I cc own nL ret ws k n lv tgt st) (kf : ¬ x ≤ y → V p l e R s m args below meth c Q G I cc own nL ret ws k n lv (pc + 3) st) : V p l e R s m args below meth c Q G I cc own nL ret ws k n lv pc (.int y :: .int x :: st) := fun C H locs ls hP hI hl => lv_icmp_le C.1 C.2.1 hdg ht (fun h => kt h C H locs ls hP hI hl) (fun h => kf h C H locs ls hP hI hl)
theorem v_goto {off : Int} {tgt : Nat} (hdg : decode cc pc = .ok (.goto off, 3)) (ht : (pc : Int) + off = (tgt : Int)) (kk : V p l e R s m args below meth c Q G I cc own nL ret ws k n lv tgt st) : V p l e R s m args below meth c Q G I cc own nL ret ws k n lv pc st := fun C H locs ls hP hI hl => lv_goto C.1 C.2.1 hdg ht (kk C H locs ls hP hI hl)
theorem v_tableOut {dflt lo hi : Int} {offs : Array Int} {len : Nat} {x : Int32} {tgt : Nat} (hdg : decode cc pc = .ok (.tableswitch dflt lo hi offs, len)) (h : x.toInt < lo ∨ hi < x.toInt) (ht : (pc : Int) + dflt = (tgt : Int)) (kk : V p l e R s m args below meth c Q G I cc own nL ret ws k n lv tgt st) : V p l e R s m args below meth c Q G I cc own nL ret ws k n lv pc (.int x :: st) := fun C H locs ls hP hI hl => lv_tableOut C.1 C.2.1 hdg h ht (kk C H locs ls hP hI hl)
theorem v_tableIn {dflt lo hi : Int} {offs : Array Int} {len : Nat} {x : Int32} {off : Int} {tgt : Nat} (hdg : decode cc pc = .ok (.tableswitch dflt lo hi offs, len)) (h1 : ¬ x.toInt < lo) (h2 : ¬ hi < x.toInt) (ho : offs[(x.toInt - lo).toNat]? = some off) (ht : (pc : Int) + off = (tgt : Int)) (kk : V p l e R s m args below meth c Q G I cc own nL ret ws k n lv tgt st) : V p l e R s m args below meth c Q G I cc own nL ret ws k n lv pc (.int x :: st) := fun C H locs ls hP hI hl => lv_tableIn C.1 C.2.1 hdg h1 h2 ho ht (kk C H locs ls hP hI hl)
theorem v_lookup {dflt : Int} {ps : Array (Int × Int)} {len : Nat} {x : Int32} {off : Int} {tgt : Nat} (hdg : decode cc pc = .ok (.lookupswitch dflt ps, len)) (hp : (ps.toList.zip (ps.toList.drop 1)).all (fun (a, next) => a.1 < next.1) = true) (ho : Op.lookupswitch.offset ps.toList dflt x.toInt = off) (ht : (pc : Int) + off = (tgt : Int)) (kk : V p l e R s m args below meth c Q G I cc own nL ret ws k n lv tgt st) : V p l e R s m args below meth c Q G I cc own nL ret ws k n lv pc (.int x :: st) := fun C H locs ls hP hI hl => lv_lookup C.1 C.2.1 hdg hp ho ht (kk C H locs ls hP hI hl)
theorem v_topi {x : Int32} (kk : ∀ y : Int32, y = x → V p l e R s m args below meth c Q G I cc own nL ret ws k n lv pc (.int y :: st)) : V p l e R s m args below meth c Q G I cc own nL ret ws k n lv pc (.int x :: st) := kk x rfl
theorem v_eqi {x : Int32} (y : Int32) (h : x = y) (kk : V p l e R s m args below meth c Q G I cc own nL ret ws k n lv pc (.int y :: st)) : V p l e R s m args below meth c Q G I cc own nL ret ws k n lv pc (.int x :: st) := h ▸ kk
theorem v_world {ws' : va_W} (h : ws = ws') (kk : V p l e R s m args below meth c Q G I cc own nL ret ws' k n lv pc st) : V p l e R s m args below meth c Q G I cc own nL ret ws k n lv pc st := h ▸ kk
theorem v_locals {lv' : List (Nat × Value)} (ks : List Nat) (h : lv_pick lv ks = lv') (kk : V p l e R s m args below meth c Q G I cc own nL ret ws k n lv' pc st) : V p l e R s m args below meth c Q G I cc own nL ret ws k n lv pc st := fun C H locs ls hP hI hl => kk C H locs ls hP hI (lv_sub hl ks h)
theorem v_get {a index ci k0 : Nat} {fs : List Value} {v : Value} (h : v_FL own index ci k0) (hdg : decode cc pc = .ok (.getfield index, 3)) (q0 : Nat) (he : ws[q0]? = some (a, .inr (ci, fs))) (hv : fs[k0]? = some v) (kk : V p l e R s m args below meth c Q G I cc own nL ret ws k n lv (pc + 3) (v :: st)) : V p l e R s m args below meth c Q G I cc own nL ret ws k n lv pc (.ref a :: st) := fun C H locs ls hP hI hl => by
  obtain ⟨Cn, T, N, ty, h1, h2, -, -, h5, h6⟩ := h
  exact va_get C.1 C.2.1 C.2.2.2.2.1 h2 C.2.2.2.1 C.2.2.2.2.2.1.1 hP q0 he h1 k0 h5 (C.2.2.2.2.1 _ h6) (fun _ h9 => h9) hv hdg (kk C H locs ls hP hI hl)
theorem v_puti {A : Nat → Prop} {a index ci k0 : Nat} {fs : List Value} {x : Int32} {ws' : va_W} (h : v_FP own index ci k0) (hdg : decode cc pc = .ok (.putfield index, 3)) (q0 : Nat) (he : ws[q0]? = some (a, .inr (ci, fs))) (hl0 : k0 < fs.length) (hw : ws.set q0 (a, .inr (ci, fs.set k0 (.int x))) = ws')
    (kk : V p l e R s m args below meth c Q G (v_Iw A s) cc own nL ret ws' k n lv (pc + 3) st) : V p l e R s m args below meth c Q G (v_Iw A s) cc own nL ret ws k n lv pc (.int x :: .ref a :: st) := fun C H locs ls hP hI hl => by
  obtain ⟨Cn, T, N, ty, h1, h2, h3, h4, h5, h6, h7, h8⟩ := h
  subst hw
  exact va_put C.1 C.2.1 C.2.2.2.2.1 h2 ty h3 h4 C.2.2.2.1 C.2.2.2.2.2.1.1 hP hI.1 hI.2 q0 he h1 k0 h5 (C.2.2.2.2.1 _ h6) (fun _ h9 => h9) h7 h8 rfl rfl hl0 hdg (fun H1 locs1 hP1 hD1 hS1 => kk C H1 locs1 ls hP1 ⟨hD1, hS1⟩ hl)
theorem v_iald {a N : Nat} {f : Nat → Int32} {i : Int32} (hdg : decode cc pc = .ok (.iaload, 1)) (q0 : Nat) (he : ws[q0]? = some (a, .inl (G.2.1, N, .inl f))) (j : Nat) (hi : i = nI j) (hj : j < N) (hN : N < 2 ^ 31) (kk : V p l e R s m args below meth c Q G I cc own nL ret ws k n lv (pc + 1) (.int (f j) :: st)) : V p l e R s m args below meth c Q G I cc own nL ret ws k n lv pc (.int i :: .ref a :: st) := fun C H locs ls hP hI hl => by
  subst hi
  refine va_iald C.1 C.2.1 C.2.2.2.2.2.1.1 hP q0 0 he rfl (vp_in_nI hj hN) hdg ?_
  rw [nI_clamp (Nat.lt_trans hj hN)]
  exact kk C H locs ls hP hI hl
theorem v_iast {A : Nat → Prop} {a N : Nat} {f : Nat → Int32} {i x : Int32} {ws' : va_W} (hdg : decode cc pc = .ok (.iastore, 1)) (q0 : Nat) (he : ws[q0]? = some (a, .inl (G.2.1, N, .inl f))) (j : Nat) (hi : i = nI j) (hj : j < N) (hN : N < 2 ^ 31) (hw : ws.set q0 (a, .inl (G.2.1, N, .inl (upd f j x))) = ws')
    (kk : V p l e R s m args below meth c Q G (v_Iw A s) cc own nL ret ws' k n lv (pc + 1) st) : V p l e R s m args below meth c Q G (v_Iw A s) cc own nL ret ws k n lv pc (.int x :: .int i :: .ref a :: st) := fun C H locs ls hP hI hl => by
  subst hi
  subst hw
  refine va_iast C.1 C.2.1 C.2.2.2.2.2.1.1 hP hI.1 hI.2 q0 0 he rfl (vp_in_nI hj hN) hdg (fun H1 locs1 hP1 hD1 hS1 => ?_)
  rw [nI_clamp (Nat.lt_trans hj hN)] at hP1 hD1
  exact kk C H1 locs1 ls hP1 ⟨hD1, hS1⟩ hl
theorem v_aald {a N x : Nat} {f : Nat → Option Nat} {i : Int32} (hdg : decode cc pc = .ok (.aaload, 1)) (q0 : Nat) (he : ws[q0]? = some (a, .inl (G.2.2, N, .inr (.inr (.inr (.inr f)))))) (j : Nat) (hi : i = nI j) (hj : j < N) (hN : N < 2 ^ 31) (hf : f j = some x) (kk : V p l e R s m args below meth c Q G I cc own nL ret ws k n lv (pc + 1) (.ref x :: st)) : V p l e R s m args below meth c Q G I cc own nL ret ws k n lv pc (.int i :: .ref a :: st) := fun C H locs ls hP hI hl => by
  subst hi
  refine va_aldq C.1 C.2.1 C.2.2.2.2.2.1.1 hP q0 1 he rfl (vp_in_nI hj hN) hdg ?_
  rw [nI_clamp (Nat.lt_trans hj hN), hf]
  exact kk C H locs ls hP hI hl
/-- Math.max and Math.min of the JDK, by the kit's own rows -/
def v_LM (own : String) (index : Nat) (y : MethodName) (cd : ByteArray) : Prop := Cond.methodLink own index y ∈ tbG ∧ Cond.static y ∈ tbG ∧ Cond.initialized "java/lang/Math" ∈ tbG ∧ Cond.code y cd 2 (some .int) ∈ tbG
theorem v_mmax {index : Nat} {x y : Int32} (h : v_LM own index Lib.Math.max.name Lib.Math.max.code) (hdg : decode cc pc = .ok (.invokestatic index, 3)) (hR : 1 ≤ R.frames ∧ (st.map fun v => v.category).sum + 13 ≤ R.locals ∧ k ≤ R.cells ∧ n ≤ R.slots) (kk : V p l e R s m args below meth c Q G I cc own nL ret ws k n lv (pc + 3) (.int (if x < y then y else x) :: st)) : V p l e R s m args below meth c Q G I cc own nL ret ws k n lv pc (.int y :: .int x :: st) := fun C H locs ls hP hI hl =>
  va_mmax C.1 C.2.1 (C.2.2.1.trans hl.1.symm) C.2.2.2.1 (C.2.2.2.2.1 _ h.1) (C.2.2.2.2.1 _ h.2.1) (C.2.2.2.2.1 _ h.2.2.1) (C.2.2.2.2.1 _ h.2.2.2) hR.1 hR.2.1 hR.2.2.1 hR.2.2.2 hdg (kk C H locs ls hP hI hl)
theorem v_mmin {index : Nat} {x y : Int32} (h : v_LM own index Lib.Math.min.name Lib.Math.min.code) (hdg : decode cc pc = .ok (.invokestatic index, 3)) (hR : 1 ≤ R.frames ∧ (st.map fun v => v.category).sum + 13 ≤ R.locals ∧ k ≤ R.cells ∧ n ≤ R.slots) (kk : V p l e R s m args below meth c Q G I cc own nL ret ws k n lv (pc + 3) (.int (if y < x then y else x) :: st)) : V p l e R s m args below meth c Q G I cc own nL ret ws k n lv pc (.int y :: .int x :: st) := fun C H locs ls hP hI hl =>
  va_mmin C.1 C.2.1 (C.2.2.1.trans hl.1.symm) C.2.2.2.1 (C.2.2.2.2.1 _ h.1) (C.2.2.2.2.1 _ h.2.1) (C.2.2.2.2.1 _ h.2.2.1) (C.2.2.2.2.1 _ h.2.2.2) hR.1 hR.2.1 hR.2.2.1 hR.2.2.2 hdg (kk C H locs ls hP hI hl)
/-! ends -/
theorem v_iretR {r v : Int32} (hdg : decode cc pc = .ok (.ireturn, 1)) (hr : v = r) : V p l e R s m args below meth c (MQ below (vp_Si (fun x => x = r)) args s k n (fun _ => False)) G (v_Ir s) cc own nL (some .int) ws k n lv pc [.int v] := fun C H locs ls hP hI hl =>
  W.iret (hlocks := C.2.2.2.2.2.2.1) C.1 C.2.1 C.2.2.2.2.2.2.2 (fun t ht _ => ⟨v, rfl, hr, ht.trans hI.1⟩) (fun q hq => by rw [hI.2] at hq; cases hq) hdg
theorem v_zretR {r v : Int32} (hdg : decode cc pc = .ok (.ireturn, 1)) (hr : v = r) (hn : narrow .boolean (.int v) = .int v) : V p l e R s m args below meth c (MQ below (vp_Si (fun x => x = r)) args s k n (fun _ => False)) G (v_Ir s) cc own nL (some .boolean) ws k n lv pc [.int v] := fun C H locs ls hP hI hl =>
  W.zret (hlocks := C.2.2.2.2.2.2.1) C.1 C.2.1 C.2.2.2.2.2.2.2 hn (fun t ht _ => ⟨v, rfl, hr, ht.trans hI.1⟩) (fun q hq => by rw [hI.2] at hq; cases hq) hdg
theorem v_iretM {r v : Int32} {w w1 : va_W} (hdg : decode cc pc = .ok (.ireturn, 1)) (hr : v = r) (hw : ws = w1) : V p l e R s m args below meth c (MQ below (v_Qi G r w w1) args s k n (v_in w)) G (v_Iw (v_in w) s) cc own nL (some .int) ws k n lv pc [.int v] := fun C H locs ls hP hI hl =>
  W.iret (hlocks := C.2.2.2.2.2.2.1) C.1 C.2.1 C.2.2.2.2.2.2.2 (fun t ht _ => ⟨by rw [hr], by rw [ht, ← hw]; exact hP, hI.2.F ht⟩) hI.2.2.2 hdg
theorem v_vretM {w w1 : va_W} (hdg : decode cc pc = .ok (.return_, 1)) (hw : ws = w1) : V p l e R s m args below meth c (MQ below (v_Qv G w w1) args s k n (v_in w)) G (v_Iw (v_in w) s) cc own nL none ws k n lv pc [] := fun C H locs ls hP hI hl =>
  W.vret (hlocks := C.2.2.2.2.2.2.1) C.1 C.2.1 C.2.2.2.2.2.2.2 (fun t ht _ => ⟨rfl, by rw [ht, ← hw]; exact hP, hI.2.F ht⟩) hI.2.2.2 hdg
end VR
/-! entries -/
theorem RdI.of {l : Launch} {G : v_Cfg} {y : MethodName} {cc : ByteArray} {nL : Nat} {ret : Option FieldType} {d : Nat} {av : List Value} {w : va_W} {r : Int32} {own : String} (hy : plainName y.cls = true) (ho : y.cls = own) (hn : (lg_sl av).length ≤ nL)
    (body : ∀ (p : Program) (e : Env) (s : State) (m : MethodId) (below : List Frame) (meth : Method) (c : Code), V p l e (rmk d) s m av.toArray below meth c (MQ below (vp_Si (fun x => x = r)) av.toArray s 0 0 (fun _ => False)) G (v_Ir s) cc own nL ret w 0 0 (lv_args 0 av) 0 []) : RdI l G y cc nL ret d av w r := by
  subst ho
  refine Met.ofW (cc := cc) (maxL := nL) (ret := ret) hy rfl ?_
  intro p e s m args below meth c s₁ B hml hv
  obtain ⟨rfl, hP, hK⟩ := hv
  have hts := atoms_spec (ws := v_ws y cc nL ret) B.pre
  rw [lg_entry_eq]
  exact body p e s m below meth c ⟨B.exec, B.bytes, hml, findClass_of_methodNamed B.named, fun w hw => hts w (List.mem_cons_of_mem _ hw), hK, B.notSynchronized, B.returns⟩ _ _ _ hP ⟨rfl, rfl⟩ (lv_entry av hn)
theorem v_selfD {w : va_W} (h : va_D (fun _ => True) w) : va_D (v_in w) w := ⟨h.1, fun k q hk => ⟨k, q.2, hk⟩⟩
theorem MuI.of {l : Launch} {G : v_Cfg} {y : MethodName} {cc : ByteArray} {nL : Nat} {ret : Option FieldType} {d : Nat} {av : List Value} {w w1 : va_W} {r : Int32} {own : String} (hy : plainName y.cls = true) (ho : y.cls = own) (hn : (lg_sl av).length ≤ nL)
    (body : ∀ (p : Program) (e : Env) (s : State) (m : MethodId) (below : List Frame) (meth : Method) (c : Code), V p l e (rmk d) s m av.toArray below meth c (MQ below (v_Qi G r w w1) av.toArray s 0 0 (v_in w)) G (v_Iw (v_in w) s) cc own nL ret w 0 0 (lv_args 0 av) 0 []) : MuI l G y cc nL ret d av w w1 r := by
  subst ho
  refine Met.ofW (cc := cc) (maxL := nL) (ret := ret) hy rfl ?_
  intro p e s m args below meth c s₁ B hml hv
  obtain ⟨rfl, hP, hD, hK⟩ := hv
  have hts := atoms_spec (ws := v_ws y cc nL ret) B.pre
  rw [lg_entry_eq]
  exact body p e s m below meth c ⟨B.exec, B.bytes, hml, findClass_of_methodNamed B.named, fun w hw => hts w (List.mem_cons_of_mem _ hw), hK, B.notSynchronized, B.returns⟩ _ _ _ hP ⟨v_selfD hD, va_S.rf⟩ (lv_entry av hn)
theorem MuV.of {l : Launch} {G : v_Cfg} {y : MethodName} {cc : ByteArray} {nL : Nat} {ret : Option FieldType} {d : Nat} {av : List Value} {w w1 : va_W} {own : String} (hy : plainName y.cls = true) (ho : y.cls = own) (hn : (lg_sl av).length ≤ nL)
    (body : ∀ (p : Program) (e : Env) (s : State) (m : MethodId) (below : List Frame) (meth : Method) (c : Code), V p l e (rmk d) s m av.toArray below meth c (MQ below (v_Qv G w w1) av.toArray s 0 0 (v_in w)) G (v_Iw (v_in w) s) cc own nL ret w 0 0 (lv_args 0 av) 0 []) : MuV l G y cc nL ret d av w w1 := by
  subst ho
  refine Met.ofW (cc := cc) (maxL := nL) (ret := ret) hy rfl ?_
  intro p e s m args below meth c s₁ B hml hv
  obtain ⟨rfl, hP, hD, hK⟩ := hv
  have hts := atoms_spec (ws := v_ws y cc nL ret) B.pre
  rw [lg_entry_eq]
  exact body p e s m below meth c ⟨B.exec, B.bytes, hml, findClass_of_methodNamed B.named, fun w hw => hts w (List.mem_cons_of_mem _ hw), hK, B.notSynchronized, B.returns⟩ _ _ _ hP ⟨v_selfD hD, va_S.rf⟩ (lv_entry av hn)
/-! calls -/
section VC
variable {p : Program} {l : Launch} {e : Env} {R : Room} {s : State} {m : MethodId} {args : Array Value} {below : List Frame} {meth : Method} {c : Code} {Q : State → Prop} {G : v_Cfg} {I : va_W → Heap → List Loc → Prop} {cc : ByteArray} {own : String} {nL : Nat} {ret : Option FieldType} {ws : va_W} {k n : Nat} {lv : List (Nat × Value)} {pc : Nat} {st : List Value}
theorem v_rdW {H : Heap} {locs : List Loc} {ls : Array Slot} {a : Array Value} {rest st0 : List Value} {r : Int32} (hr : va_Run p l e R s m args below meth c H locs k n 0 0 (F0 m pc ls st0) rest (vp_Si (fun x => x = r) a) (fun _ => False)) (kk : W p l e R s m args below meth c H locs k n Q (F0 m (pc + 3) ls (.int r :: rest))) : W p l e R s m args below meth c H locs k n Q (F0 m pc ls st0) := by
  intro T hT X
  obtain ⟨v, st₀, t, T', L, h0, X', hL, e1, e2, ⟨r', hv, hp, hh⟩, st⟩ := hr T hT X
  cases hv
  subst hp
  obtain ⟨t2, a1, b1⟩ := kk T' (by rw [e1, hh, h0]) (Stand.forget X' (fun q h => (hL q h).elim))
  exact ⟨t2, st t2 a1, b1⟩
theorem v_aft {H : Heap} {locs L : List Loc} {t : State} {T' : State} {A : Nat → Prop} {w : va_W} (e1 : T'.heap = t.heap) (hS : va_S A s.heap H locs) (hin : ∀ q, v_in w q → A q) (hz : H.size ≤ t.heap.size) (hk : ∀ q : Nat, q < H.size → ¬ v_in w q → t.heap[q]? = H[q]?) (hL : ∀ q ∈ L, v_in w q.base) : va_S A s.heap T'.heap (locs ++ L) :=
  ⟨Nat.le_trans hS.1 (by rw [e1]; exact hz), fun q h1 h2 => by rw [e1, hk q (Nat.lt_of_lt_of_le h1 hS.1) (fun z => h2 (hin q z))]; exact hS.2.1 q h1 h2, fun q hq => (List.mem_append.mp hq).elim (hS.2.2 q) (fun h => hin _ (hL q h))⟩
theorem v_muiW {H : Heap} {locs : List Loc} {ls : Array Slot} {a : Array Value} {rest st0 : List Value} {r : Int32} {A : Nat → Prop} {w w1 : va_W} (hr : va_Run p l e R s m args below meth c H locs k n 0 0 (F0 m pc ls st0) rest (v_Qi G r w w1 a) (v_in w)) (hin : ∀ q, v_in w q → A q) (hS : va_S A s.heap H locs)
    (kk : ∀ (H1 : Heap) (locs1 : List Loc), va_P G.1 vwCl w1 H1 → (∀ q : Nat, q < H.size → ¬ v_in w q → H1[q]? = H[q]?) → va_S A s.heap H1 locs1 → W p l e R s m args below meth c H1 locs1 k n Q (F0 m (pc + 3) ls (.int r :: rest))) : W p l e R s m args below meth c H locs k n Q (F0 m pc ls st0) := by
  intro T hT X
  obtain ⟨v, st₀, t, T', L, h0, X', hL, e1, e2, ⟨ho, hp, hz, hk⟩, st⟩ := hr T hT X
  cases ho
  rw [h0] at hz hk
  obtain ⟨t2, a1, b1⟩ := kk T'.heap (locs ++ L) (by rw [e1]; exact hp) (fun q h1 h2 => by rw [e1]; exact hk q h1 h2) (v_aft e1 hS hin hz hk hL) T' rfl X'
  exact ⟨t2, st t2 a1, b1⟩
theorem v_muvW {H : Heap} {locs : List Loc} {ls : Array Slot} {a : Array Value} {rest st0 : List Value} {A : Nat → Prop} {w w1 : va_W} (hr : va_Run p l e R s m args below meth c H locs k n 0 0 (F0 m pc ls st0) rest (v_Qv G w w1 a) (v_in w)) (hin : ∀ q, v_in w q → A q) (hS : va_S A s.heap H locs)
    (kk : ∀ (H1 : Heap) (locs1 : List Loc), va_P G.1 vwCl w1 H1 → (∀ q : Nat, q < H.size → ¬ v_in w q → H1[q]? = H[q]?) → va_S A s.heap H1 locs1 → W p l e R s m args below meth c H1 locs1 k n Q (F0 m (pc + 3) ls rest)) : W p l e R s m args below meth c H locs k n Q (F0 m pc ls st0) := by
  intro T hT X
  obtain ⟨v, st₀, t, T', L, h0, X', hL, e1, e2, ⟨ho, hp, hz, hk⟩, st⟩ := hr T hT X
  cases ho
  rw [h0] at hz hk
  obtain ⟨t2, a1, b1⟩ := kk T'.heap (locs ++ L) (by rw [e1]; exact hp) (fun q h1 h2 => by rw [e1]; exact hk q h1 h2) (v_aft e1 hS hin hz hk hL) T' rfl X'
  exact ⟨t2, st t2 a1, b1⟩
theorem v_part {D : va_G} {cl : List vw_C} {H : Heap} {wc : va_W} (hP : va_P D cl ws H) (isC : List Nat) (hC : isC.map (fun i => ws[i]?) = wc.map some) : va_P D cl wc H := fun k q hk => by
  obtain ⟨i, -, hi⟩ := va_in_of isC hC hk
  exact hP i q hi
theorem v_inA {A : Nat → Prop} {wc : va_W} (hD : va_D A ws) (isC : List Nat) (hC : isC.map (fun i => ws[i]?) = wc.map some) : ∀ q, v_in wc q → A q := fun q ⟨k, e, hk⟩ => by
  obtain ⟨i, -, hi⟩ := va_in_of isC hC hk
  exact hD.2 i (q, e) hi
theorem v_blr (G : v_Cfg) (av : List Value) (w : va_W) : FrameBlind (v_Pr G av w) := fun _ _ _ _ q => ⟨q.1, q.2.1, xK.same rfl q.2.2⟩
theorem v_blm (G : v_Cfg) (av : List Value) (w : va_W) : FrameBlind (v_Pm G av w) := fun _ _ _ _ q => ⟨q.1, q.2.1, q.2.2.1, xK.same rfl q.2.2.2⟩
variable {y : MethodName} {ycc : ByteArray} {yn : Nat} {yret : Option FieldType} {d na index : Nat}
theorem v_cw (hts : ∀ w ∈ tbG, w.before args s = true) (hY : v_Y y ycc yn yret na) (hL : v_LV own index y) (hR : (rmk d).frames + 1 ≤ R.frames ∧ 8 + (yn + 11) + (rmk d).locals ≤ R.locals) : CallW R s args own y.cls index y ycc yn yret (v_ws y ycc yn yret) (rmk d) 0 0 na :=
  ⟨callB_of na hts (v_goodIn hY.1) rfl rfl rfl (hts _ hY.2.1) (hts _ hL.1) ⟨hY.2.2.1, hY.2.2.2.1, hY.2.2.2.2⟩ hR, hts _ hL.2.1, hts _ hL.2.2⟩
theorem v_cs (hts : ∀ w ∈ tbG, w.before args s = true) (hY : v_Y y ycc yn yret na) (hL : v_LS own index y) (hR : (rmk d).frames + 1 ≤ R.frames ∧ 8 + (yn + 11) + (rmk d).locals ≤ R.locals) : CallB R s args own index y ycc yn yret (v_ws y ycc yn yret) (rmk d) 0 0 na ∧ (Cond.static y).before args s = true :=
  ⟨callB_of na hts (v_goodIn hY.1) rfl rfl rfl (hts _ hY.2.1) (hts _ hL.1) ⟨hY.2.2.1, hY.2.2.2.1, hY.2.2.2.2⟩ hR, hts _ hL.2⟩
def v_ci (ci : Nat) (C : String) : Prop := ∃ q : vw_C, vwCl[ci]? = some q ∧ q.1 = C
theorem v_rcv {H : Heap} {b q0 ci : Nat} {fs : List Value} {C : String} (hK : xK G s) (hP : va_P G.1 vwCl ws H) (hci : v_ci ci C) (he : ws[q0]? = some (b, .inr (ci, fs))) : ∃ cellB : Cell, H[b]? = some cellB ∧ cellB.vm.isStatics = false ∧ s.vm.findClass C = some cellB.cls := by
  obtain ⟨q, h1, rfl⟩ := hci
  exact va_recv hK.1 hP h1 he
theorem v_vRd {b ci : Nat} {fs : List Value} {As rest : List Value} {wc : va_W} {r : Int32} (hM : RdI l G y ycc yn yret d (.ref b :: As) wc r) (hY : v_Y y ycc yn yret na) (hL : v_LV own index y) (hdg : decode cc pc = .ok (.invokevirtual index, 3)) (hci : v_ci ci y.cls) (q0 : Nat) (he : ws[q0]? = some (b, .inr (ci, fs))) (isC : List Nat) (hC : isC.map (fun i => ws[i]?) = wc.map some) (hn : As.length = na) (hst : st = As.reverse ++ .ref b :: rest) (hW : (rest.map fun v => v.category).sum ≤ 8) (hR : (rmk d).frames + 1 ≤ R.frames ∧ 8 + (yn + 11) + (rmk d).locals ≤ R.locals) (hf : k ≤ R.cells ∧ n ≤ R.slots)
    (kk : V p l e R s m args below meth c Q G I cc own nL ret ws k n lv (pc + 3) (.int r :: rest)) : V p l e R s m args below meth c Q G I cc own nL ret ws k n lv pc st := fun C H locs ls hP hI hl => by
  subst hst
  exact v_rdW (va_runV (As := As) (rest := rest) ⟨C.1, C.2.1, C.2.2.1, C.2.2.2.1, C.2.2.2.2.1⟩ hM (v_cw C.2.2.2.2.1 hY hL hR) ⟨v_blr _ _ _, v_rcv C.2.2.2.2.2.1 hP hci he, fun U hU hW => ⟨rfl, by rw [hU]; exact v_part hP isC hC, xK.warm hW C.2.2.2.2.2.1⟩⟩ rfl hn hl.1 rfl (lv_room hW) hdg hf) (kk C H locs ls hP hI hl)
theorem v_sRd {As rest : List Value} {wc : va_W} {r : Int32} (hM : RdI l G y ycc yn yret d As wc r) (hY : v_Y y ycc yn yret na) (hL : v_LS own index y) (hdg : decode cc pc = .ok (.invokestatic index, 3)) (isC : List Nat) (hC : isC.map (fun i => ws[i]?) = wc.map some) (hn : As.length = na) (hst : st = As.reverse ++ rest) (hW : (rest.map fun v => v.category).sum ≤ 8) (hR : (rmk d).frames + 1 ≤ R.frames ∧ 8 + (yn + 11) + (rmk d).locals ≤ R.locals) (hf : k ≤ R.cells ∧ n ≤ R.slots)
    (kk : V p l e R s m args below meth c Q G I cc own nL ret ws k n lv (pc + 3) (.int r :: rest)) : V p l e R s m args below meth c Q G I cc own nL ret ws k n lv pc st := fun C H locs ls hP hI hl => by
  subst hst
  exact v_rdW (va_runS (As := As) (rest := rest) ⟨C.1, C.2.1, C.2.2.1, C.2.2.2.1, C.2.2.2.2.1⟩ hM (v_cs C.2.2.2.2.1 hY hL hR) ⟨v_blr _ _ _, fun U hU hW => ⟨rfl, by rw [hU]; exact v_part hP isC hC, xK.warm hW C.2.2.2.2.2.1⟩⟩ rfl hn hl.1 rfl (lv_room hW) hdg hf) (kk C H locs ls hP hI hl)
/-- a private static method of the nest's host, called from a class inside -/
theorem v_nRd {As rest : List Value} {wc : va_W} {r : Int32} {host : String} (hM : RdI l G y ycc yn yret d As wc r) (hY : v_Y y ycc yn yret na) (hS : Cond.static y ∈ tbG) (hL : xK G s → va_Nw (.methodLinkNest own index y host) s) (hdg : decode cc pc = .ok (.invokestatic index, 3)) (isC : List Nat) (hC : isC.map (fun i => ws[i]?) = wc.map some) (hn : As.length = na) (hst : st = As.reverse ++ rest) (hW : (rest.map fun v => v.category).sum ≤ 8) (hR : (rmk d).frames + 1 ≤ R.frames ∧ 8 + (yn + 11) + (rmk d).locals ≤ R.locals) (hf : k ≤ R.cells ∧ n ≤ R.slots)
    (kk : V p l e R s m args below meth c Q G I cc own nL ret ws k n lv (pc + 3) (.int r :: rest)) : V p l e R s m args below meth c Q G I cc own nL ret ws k n lv pc st := fun C H locs ls hP hI hl => by
  subst hst
  exact v_rdW (va_runSN (As := As) (rest := rest) ⟨C.1, C.2.1, C.2.2.1, C.2.2.2.1, C.2.2.2.2.1⟩ hM ⟨va_cnB na C.2.2.2.2.1 (v_goodIn hY.1) rfl rfl rfl (hL C.2.2.2.2.2.1) (C.2.2.2.2.1 _ hY.2.1) ⟨hY.2.2.1, hY.2.2.2.1, hY.2.2.2.2⟩ hR, C.2.2.2.2.1 _ hS, trivial⟩ ⟨v_blr _ _ _, fun U hU hW => ⟨rfl, by rw [hU]; exact v_part hP isC hC, xK.warm hW C.2.2.2.2.2.1⟩⟩ rfl hn hl.1 rfl (lv_room hW) hdg hf) (kk C H locs ls hP hI hl)
theorem v_vMi {A : Nat → Prop} {b ci : Nat} {fs : List Value} {As rest : List Value} {wc w1 ws' : va_W} {r : Int32} (hM : MuI l G y ycc yn yret d (.ref b :: As) wc w1 r) (hY : v_Y y ycc yn yret na) (hL : v_LV own index y) (hdg : decode cc pc = .ok (.invokevirtual index, 3)) (hci : v_ci ci y.cls) (q0 : Nat) (he : ws[q0]? = some (b, .inr (ci, fs))) (isC : List Nat) (hnd : va_nd isC = true) (hC : isC.map (fun i => ws[i]?) = wc.map some) (hln : isC.length = w1.length) (hws : v_put ws isC w1 = ws') (had : ws'.map Prod.fst = ws.map Prod.fst) (hn : As.length = na) (hst : st = As.reverse ++ .ref b :: rest) (hW : (rest.map fun v => v.category).sum ≤ 8) (hR : (rmk d).frames + 1 ≤ R.frames ∧ 8 + (yn + 11) + (rmk d).locals ≤ R.locals) (hf : k ≤ R.cells ∧ n ≤ R.slots)
    (kk : V p l e R s m args below meth c Q G (v_Iw A s) cc own nL ret ws' k n lv (pc + 3) (.int r :: rest)) : V p l e R s m args below meth c Q G (v_Iw A s) cc own nL ret ws k n lv pc st := fun C H locs ls hP hI hl => by
  subst hst
  subst hws
  refine v_muiW (va_runV (As := As) (rest := rest) ⟨C.1, C.2.1, C.2.2.1, C.2.2.2.1, C.2.2.2.2.1⟩ hM (v_cw C.2.2.2.2.1 hY hL hR) ⟨v_blm _ _ _, v_rcv C.2.2.2.2.2.1 hP hci he, fun U hU hW => ⟨rfl, by rw [hU]; exact v_part hP isC hC, (hI.1.sub isC hnd hC).weaken (fun _ _ _ _ => trivial), xK.warm hW C.2.2.2.2.2.1⟩⟩ rfl hn hl.1 rfl (lv_room hW) hdg hf) (v_inA hI.1 isC hC) hI.2 (fun H1 locs1 hP1 hk hS1 => ?_)
  exact kk C H1 locs1 ls (v_mixed hP hI.1 isC hC hP1 hk (v_put_src isC w1 ws hln)) ⟨hI.1.addr had, hS1⟩ hl
theorem v_vMv {A : Nat → Prop} {b ci : Nat} {fs : List Value} {As rest : List Value} {wc w1 ws' : va_W} (hM : MuV l G y ycc yn yret d (.ref b :: As) wc w1) (hY : v_Y y ycc yn yret na) (hL : v_LV own index y) (hdg : decode cc pc = .ok (.invokevirtual index, 3)) (hci : v_ci ci y.cls) (q0 : Nat) (he : ws[q0]? = some (b, .inr (ci, fs))) (isC : List Nat) (hnd : va_nd isC = true) (hC : isC.map (fun i => ws[i]?) = wc.map some) (hln : isC.length = w1.length) (hws : v_put ws isC w1 = ws') (had : ws'.map Prod.fst = ws.map Prod.fst) (hn : As.length = na) (hst : st = As.reverse ++ .ref b :: rest) (hW : (rest.map fun v => v.category).sum ≤ 8) (hR : (rmk d).frames + 1 ≤ R.frames ∧ 8 + (yn + 11) + (rmk d).locals ≤ R.locals) (hf : k ≤ R.cells ∧ n ≤ R.slots)
    (kk : V p l e R s m args below meth c Q G (v_Iw A s) cc own nL ret ws' k n lv (pc + 3) rest) : V p l e R s m args below meth c Q G (v_Iw A s) cc own nL ret ws k n lv pc st := fun C H locs ls hP hI hl => by
  subst hst
  subst hws
  refine v_muvW (va_runV (As := As) (rest := rest) ⟨C.1, C.2.1, C.2.2.1, C.2.2.2.1, C.2.2.2.2.1⟩ hM (v_cw C.2.2.2.2.1 hY hL hR) ⟨v_blm _ _ _, v_rcv C.2.2.2.2.2.1 hP hci he, fun U hU hW => ⟨rfl, by rw [hU]; exact v_part hP isC hC, (hI.1.sub isC hnd hC).weaken (fun _ _ _ _ => trivial), xK.warm hW C.2.2.2.2.2.1⟩⟩ rfl hn hl.1 rfl (lv_room hW) hdg hf) (v_inA hI.1 isC hC) hI.2 (fun H1 locs1 hP1 hk hS1 => ?_)
  exact kk C H1 locs1 ls (v_mixed hP hI.1 isC hC hP1 hk (v_put_src isC w1 ws hln)) ⟨hI.1.addr had, hS1⟩ hl
end VC

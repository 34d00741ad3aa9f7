-- ===== BASE 1: one word list for all methods, what is known of the classes =====
def TB : List Cond := lw_tbl.filter goodWord
theorem tb_at {w : Cond} (i : Nat) (h : lw_tbl[i]? = some w) (hg : goodWord w = true) : w ∈ TB := List.mem_filter.mpr ⟨List.mem_of_getElem? h, hg⟩
theorem tb_t1 {w : Cond} (i : Nat) (hi : tables_1_1[i]? = some w) (hg : goodWord w = true) : w ∈ TB := by
  have h : w ∈ tables_1_1 := List.mem_of_getElem? hi
  exact List.mem_filter.mpr ⟨List.mem_append_right _ (List.mem_append_left _ h), hg⟩
theorem tb_t2 {w : Cond} (i : Nat) (hi : tables_1_2[i]? = some w) (hg : goodWord w = true) : w ∈ TB := by
  have h : w ∈ tables_1_2 := List.mem_of_getElem? hi
  exact List.mem_filter.mpr ⟨List.mem_append_right _ (List.mem_append_right _ (List.mem_append_left _ h)), hg⟩
theorem tb_t3 {w : Cond} (i : Nat) (hi : tables_1_3[i]? = some w) (hg : goodWord w = true) : w ∈ TB := by
  have h : w ∈ tables_1_3 := List.mem_of_getElem? hi
  exact List.mem_filter.mpr ⟨List.mem_append_right _ (List.mem_append_right _ (List.mem_append_right _ (List.mem_append_left _ h))), hg⟩
theorem tb_t4 {w : Cond} (i : Nat) (hi : tables_1_4[i]? = some w) (hg : goodWord w = true) : w ∈ TB := by
  have h : w ∈ tables_1_4 := List.mem_of_getElem? hi
  exact List.mem_filter.mpr ⟨List.mem_append_right _ (List.mem_append_right _ (List.mem_append_right _ (List.mem_append_right _ (List.mem_append_left _ h)))), hg⟩
theorem tb_t5 {w : Cond} (i : Nat) (hi : tables_1_5[i]? = some w) (hg : goodWord w = true) : w ∈ TB := by
  have h : w ∈ tables_1_5 := List.mem_of_getElem? hi
  exact List.mem_filter.mpr ⟨List.mem_append_right _ (List.mem_append_right _ (List.mem_append_right _ (List.mem_append_right _ (List.mem_append_right _ (List.mem_append_left _ h))))), hg⟩
theorem tb_t6 {w : Cond} (i : Nat) (hi : tables_1_6[i]? = some w) (hg : goodWord w = true) : w ∈ TB := by
  have h : w ∈ tables_1_6 := List.mem_of_getElem? hi
  exact List.mem_filter.mpr ⟨List.mem_append_right _ (List.mem_append_right _ (List.mem_append_right _ (List.mem_append_right _ (List.mem_append_right _ (List.mem_append_right _ (List.mem_append_left _ h)))))), hg⟩
theorem tb_t7 {w : Cond} (i : Nat) (hi : tables_1_7[i]? = some w) (hg : goodWord w = true) : w ∈ TB := by
  have h : w ∈ tables_1_7 := List.mem_of_getElem? hi
  exact List.mem_filter.mpr ⟨List.mem_append_right _ (List.mem_append_right _ (List.mem_append_right _ (List.mem_append_right _ (List.mem_append_right _ (List.mem_append_right _ (List.mem_append_right _ (List.mem_append_left _ h))))))), hg⟩
theorem tb_t8 {w : Cond} (i : Nat) (hi : tables_1_8[i]? = some w) (hg : goodWord w = true) : w ∈ TB := by
  have h : w ∈ tables_1_8 := List.mem_of_getElem? hi
  exact List.mem_filter.mpr ⟨List.mem_append_right _ (List.mem_append_right _ (List.mem_append_right _ (List.mem_append_right _ (List.mem_append_right _ (List.mem_append_right _ (List.mem_append_right _ (List.mem_append_right _ (List.mem_append_left _ h)))))))), hg⟩
theorem tb_t9 {w : Cond} (i : Nat) (hi : tables_1_9[i]? = some w) (hg : goodWord w = true) : w ∈ TB := by
  have h : w ∈ tables_1_9 := List.mem_of_getElem? hi
  exact List.mem_filter.mpr ⟨List.mem_append_right _ (List.mem_append_right _ (List.mem_append_right _ (List.mem_append_right _ (List.mem_append_right _ (List.mem_append_right _ (List.mem_append_right _ (List.mem_append_right _ (List.mem_append_right _ (List.mem_append_left _ h))))))))), hg⟩
theorem tb_t10 {w : Cond} (i : Nat) (hi : tables_1_10[i]? = some w) (hg : goodWord w = true) : w ∈ TB := by
  have h : w ∈ tables_1_10 := List.mem_of_getElem? hi
  exact List.mem_filter.mpr ⟨List.mem_append_right _ (List.mem_append_right _ (List.mem_append_right _ (List.mem_append_right _ (List.mem_append_right _ (List.mem_append_right _ (List.mem_append_right _ (List.mem_append_right _ (List.mem_append_right _ (List.mem_append_right _ (h)))))))))), hg⟩
theorem tb_s {w : Cond} (i : Nat) (hi : (k2_sels lw_privs)[i]? = some w) (hg : goodWord w = true) : w ∈ TB := List.mem_filter.mpr ⟨List.mem_append_left _ (List.mem_of_getElem? hi), hg⟩
theorem tb_all {ws : List Cond} (ps : List Nat) (hp : ws = ps.filterMap (fun i => lw_tbl[i]?)) (hg : ws.all goodWord = true) : ∀ w ∈ ws, w ∈ TB := by
  intro w hw
  have h1 := List.all_eq_true.mp hg w hw
  rw [hp] at hw
  obtain ⟨i, -, hi⟩ := List.mem_filterMap.mp hw
  exact tb_at i hi h1
theorem tb_good {w : Cond} (h : w ∈ TB) : (w.onTables && w.keeps) = true ∨ ∃ ty, w = .arrayClass ty := good_of_word (List.mem_filter.mp h).2
theorem gd_self : GoodIn TB TB := fun _ h => ⟨h, tb_good h⟩
theorem gd_cons {w : Cond} {ws : List Cond} (h : w ∈ TB) (hg : GoodIn TB ws) : GoodIn TB (w :: ws) := fun x hx => (List.mem_cons.mp hx).elim (fun e => e ▸ ⟨h, tb_good h⟩) (hg x)
theorem tb_of {args : Array Value} {s : State} (h : ∀ w ∈ lw_tbl, w.before args s = true) : ∀ w ∈ TB, w.before args s = true := fun w hw => h w (List.mem_filter.mp hw).1
abbrev TYS (k : Nat → ClassId) : List (ClassId × FieldType) := [(k 0, .int), (k 1, .byte), (k 2, .long), (k 3, .boolean), (k 4, .object "CabbageViews$Garden"), (k 5, .array .int), (k 6, .array .long)]
/-- an array class over arrays stays over them -/
def kd_is (comp : ClassId) (kd : Kind) : Bool := match kd with | .array component _ => component == comp | _ => false
def kd_ok (t : FieldType) (b : Bool) (kd : Kind) : Bool := match kd with | .array _ ty => decide (ty = t) && b | _ => false
theorem idx_bare (f : Kind → Bool) (vm : Vm) : (vm.bare.classes.findIdx? fun x => f x.kind) = vm.classes.findIdx? fun x => f x.kind := by
  simp only [Vm.bare, Array.findIdx?_map]
  rfl
theorem idx_alike (f : Kind → Bool) {u U : State} (hvm : u.vm.Alike U.vm) : (U.vm.classes.findIdx? fun x => f x.kind) = u.vm.classes.findIdx? fun x => f x.kind := by
  rw [← idx_bare f U.vm, ← idx_bare f u.vm]
  first | rw [hvm.bare_eq] | rw [← hvm.bare_eq]
def aoA (t : FieldType) (U : State) : Option Bool := (U.vm.findClass (FieldType.array t).toString).bind fun comp => (U.vm.classes.findIdx? fun x => kd_is comp x.kind).bind fun c => (U.vm.classes[c]?).map fun (k : Class) => kd_ok (.array t) (decide (U.vm.findClass ("[" ++ (FieldType.array t).toString) = some c)) k.kind
theorem aoA_eq (t : FieldType) (U : State) : (Cond.arrayOver (.array t)).before #[] U = (aoA t U == some true) := by
  unfold Cond.before Cond.holds
  simp only [Cond.value]
  rfl
theorem aoA_moved {t : FieldType} {u U : State} (hvm : u.vm.Alike U.vm) (h : (Cond.arrayOver (.array t)).before #[] u = true) : (Cond.arrayOver (.array t)).before #[] U = true := by
  rw [aoA_eq] at h ⊢
  have f2 : ∀ n : String, U.vm.findClass n = u.vm.findClass n := fun n => hvm.findClass n none
  have e : aoA t U = aoA t u := by
    unfold aoA
    rw [f2]
    congr 1
    funext comp
    rw [idx_alike (kd_is comp) hvm]
    cases hi : (u.vm.classes.findIdx? fun x => kd_is comp x.kind) with
    | none => rfl
    | some c =>
      rw [Option.bind_some, Option.bind_some, f2]
      obtain ⟨hlt, -, -⟩ := Array.findIdx?_eq_some_iff_getElem.mp hi
      have hk : u.vm.classes[c]? = some u.vm.classes[c] := Array.getElem?_eq_getElem hlt
      obtain ⟨k', hk', he⟩ := hvm.2.2 _ _ hk
      rw [hk, hk', Option.map_some, Option.map_some, show k'.kind = u.vm.classes[c].kind by rw [he]]
  rw [e]
  exact h
def KK (D : va_G) (k : Nat → ClassId) (U : State) : Prop := va_K D vwCl (TYS k) U ∧ (∀ w ∈ NW, va_Nw (.methodLinkNest w.1 w.2.1 w.2.2.1 w.2.2.2) U) ∧ va_AO "CabbageViews$Garden" U ∧ (Cond.arrayOver (.array .int)).before #[] U = true ∧ (Cond.arrayOver (.array .long)).before #[] U = true
theorem KK.warm {D : va_G} {k : Nat → ClassId} {s U : State} (hW : s.WarmedH U.vm) (h : KK D k s) : KK D k U :=
  ⟨va_K.moved hW.alike h.1, fun w hw => va_Nw.warmM hW (h.2.1 w hw), va_AO.moved hW.alike h.2.2.1, aoA_moved hW.alike h.2.2.2.1, aoA_moved hW.alike h.2.2.2.2⟩
theorem KK.calling {D : va_G} {k : Nat → ClassId} {U : State} {g : JFrame} {mk : MethodId} {a : Array Value} (h : KK D k U) : KK D k (U.calling g mk a) :=
  ⟨va_K.moved (u := U) (U := U.calling g mk a) (Vm.Alike.refl U.vm) h.1, fun w hw => va_Nw.same (u := U) (U := U.calling g mk a) rfl rfl (h.2.1 w hw), va_AO.moved (u := U) (U := U.calling g mk a) (Vm.Alike.refl U.vm) h.2.2.1, aoA_moved (u := U) (U := U.calling g mk a) (Vm.Alike.refl U.vm) h.2.2.2.1, aoA_moved (u := U) (U := U.calling g mk a) (Vm.Alike.refl U.vm) h.2.2.2.2⟩
/-- what is known of a class: its place among the classes, its fields' words, their types, their names apart, it can be made -/
def CF (ci : Nat) (C : String) (T : u_T) (N : Nat) (ty : Nat → FieldType) : Prop := vwCl[ci]? = some (C, T, N) ∧ (∀ w ∈ u_ws C T N, w ∈ TB) ∧ (∀ k, k < N → parseFieldDescriptor (T k).2.2.1 = some (ty k)) ∧ (∀ a, a < N → ∀ b, b < N → a ≠ b → (T a).2.1 ≠ (T b).2.1) ∧ Cond.instantiable C N ∈ TB ∧ Cond.initialized C ∈ TB
/-- a method that is called on an object / a static one / a constructor: its words -/
def MV (y : MethodName) (cc : ByteArray) (n : Nat) (r : Option FieldType) (ar : Nat) : Prop := Cond.code y cc n r ∈ TB ∧ Cond.instanceMethod y ∈ TB ∧ Cond.selects y.cls y y ∈ TB ∧ Cond.initialized y.cls ∈ TB ∧ y.cls ≠ "java/lang/invoke/MethodHandle" ∧ y.cls ≠ "java/lang/invoke/VarHandle" ∧ (parseMethodDescriptor y.desc).map (fun d => d.parameters.length) = some ar
def MS (y : MethodName) (cc : ByteArray) (n : Nat) (r : Option FieldType) (ar : Nat) : Prop := Cond.code y cc n r ∈ TB ∧ Cond.static y ∈ TB ∧ Cond.initialized y.cls ∈ TB ∧ y.cls ≠ "java/lang/invoke/MethodHandle" ∧ y.cls ≠ "java/lang/invoke/VarHandle" ∧ (parseMethodDescriptor y.desc).map (fun d => d.parameters.length) = some ar
def MI (y : MethodName) (cc : ByteArray) (n : Nat) (ar : Nat) : Prop := Cond.code y cc n none ∈ TB ∧ Cond.instanceMethod y ∈ TB ∧ y.name = "<init>" ∧ Cond.initialized y.cls ∈ TB ∧ y.cls ≠ "java/lang/invoke/MethodHandle" ∧ y.cls ≠ "java/lang/invoke/VarHandle" ∧ (parseMethodDescriptor y.desc).map (fun d => d.parameters.length) = some ar
abbrev Rm (d c n : Nat) : Room := { frames := d, cells := c, slots := n, locals := 60 * d }
abbrev WS (y : MethodName) (cc : ByteArray) (n : Nat) (r : Option FieldType) : List Cond := .code y cc n r :: TB
/-- the String constants: sLen, sByt their lengths and bytes; z i the i-th one, z (100 + i) its bytes' array; SR: which ldc gives which -/
def SKp (z : Nat → Nat) (A : Nat → Prop) (U : State) : Prop := vk_S 11 sLen sByt z (fun i => z (100 + i)) A U U.heap ∧ (∀ w ∈ SR, vk_R w.1 w.2.1 w.2.2.1 (z w.2.2.2) U) ∧ va_Z "java/lang/String" "COMPACT_STRINGS" "Z" (.int 1) A U U.heap ∧ va_Zq "jdk/internal/util/Preconditions" "SIOOBE_FORMATTER" "Ljava/util/function/BiFunction;" A U U.heap
theorem SKp.to {z : Nat → Nat} {A B C : Nat → Prop} {s U : State} {H : Heap} {locs : List Loc} (h : SKp z B s) (hS : va_S A s.heap H locs) (hAB : ∀ q, A q → B q) (hU : U.heap = H) (hW : s.WarmedH U.vm) (hCB : ∀ q, C q → B q) : SKp z C U := by
  have hq : ∀ a : Nat, a < s.heap.size → ¬ B a → U.heap[a]? = s.heap[a]? := fun a h1 h2 => by rw [hU]; exact hS.2.1 a h1 (fun x => h2 (hAB a x))
  exact ⟨((h.1.kept hq).moved hW.alike).narrow hCB, fun w hw => vk_R.warm hW (h.2.1 w hw), ((h.2.2.1.kept hq).moved hW.alike).narrow hCB, ((h.2.2.2.kept hq).moved hW.alike).narrow hCB⟩
theorem SKp.narrow {z : Nat → Nat} {B C : Nat → Prop} {s : State} (h : SKp z B s) (hCB : ∀ q, C q → B q) : SKp z C s := ⟨h.1.narrow hCB, h.2.1, h.2.2.1.narrow hCB, h.2.2.2.narrow hCB⟩
theorem SKp.calling {z : Nat → Nat} {A : Nat → Prop} {U : State} {g : JFrame} {mk : MethodId} {a : Array Value} (h : SKp z A U) : SKp z A (U.calling g mk a) :=
  ⟨vk_S.moved (u := U) (U := U.calling g mk a) (Vm.Alike.refl U.vm) h.1, fun w hw => vk_R.same (u := U) (U := U.calling g mk a) rfl (h.2.1 w hw), va_Z.moved (u := U) (U := U.calling g mk a) (Vm.Alike.refl U.vm) h.2.2.1, va_Zq.moved (u := U) (U := U.calling g mk a) (Vm.Alike.refl U.vm) h.2.2.2⟩
def Wd (D : va_G) (k : Nat → ClassId) (z : Nat → Nat) (w : va_W) (sz : Nat) (U : State) : Prop := U.heap.size = sz ∧ va_P D vwCl w U.heap ∧ KK D k U ∧ va_D (fun _ => True) w ∧ SKp z (va_A w sz) U
theorem Wd.calling {D : va_G} {k : Nat → ClassId} {z : Nat → Nat} {w : va_W} {sz : Nat} {U : State} {g : JFrame} {mk : MethodId} {a : Array Value} (h : Wd D k z w sz U) : Wd D k z w sz (U.calling g mk a) := ⟨h.1, h.2.1, h.2.2.1.calling, h.2.2.2.1, h.2.2.2.2.calling⟩
theorem P_nil {D : va_G} {cl : List vw_C} {H : Heap} : va_P D cl [] H := fun k q h => by simp at h
theorem D_nil {A : Nat → Prop} : va_D A [] := ⟨fun i j p q h => by simp at h, fun k q h => by simp at h⟩
/-- a contract that reads alone: any heap that holds w; the answer's post; no old cell changes -/
def RO (l : Launch) (y : MethodName) (cc : ByteArray) (n : Nat) (r : Option FieldType) (d : Nat) (D : va_G) (k : Nat → ClassId) (z : Nat → Nat) (av : List Value) (w : va_W) (Qf : (Nat → Prop) → Array Value → State → Outcome → State → Prop) : Prop :=
  ∀ sz : Nat, Met l y (WS y cc n r) (Rm d 0 0) (va_Pc av (Wd D k z w sz)) (Qf (fun q => sz ≤ q)) 0 0 (fun q => sz ≤ q)
abbrev Qi (post : Int32 → Prop) : (Nat → Prop) → Array Value → State → Outcome → State → Prop := fun A => va_Qi (fun r (_ : Unit) => post r) (fun _ _ => True) A
abbrev Qv (post : Prop) : (Nat → Prop) → Array Value → State → Outcome → State → Prop := fun A => va_Qv (fun (_ : Unit) => post) (fun _ _ => True) A
abbrev Ql (post : Int64 → Prop) : (Nat → Prop) → Array Value → State → Outcome → State → Prop := fun A => va_Ql (fun r (_ : Unit) => post r) (fun _ _ => True) A
/-- a contract that writes in w, and may make c cells of n slots: behind it the cells are w' u -/
def MU (l : Launch) (y : MethodName) (cc : ByteArray) (n : Nat) (r : Option FieldType) (d : Nat) (D : va_G) (k : Nat → ClassId) (z : Nat → Nat) (av : List Value) (w : va_W) (mc ms : Nat) (Qf : (Nat → Prop) → Array Value → State → Outcome → State → Prop) : Prop :=
  ∀ sz : Nat, Met l y (WS y cc n r) (Rm d mc ms) (va_Pc av (Wd D k z w sz)) (Qf (va_A w sz)) mc ms (va_A w sz)
abbrev Ui {S : Type} (D : va_G) (post : Int32 → S → Prop) (w' : S → va_W) : (Nat → Prop) → Array Value → State → Outcome → State → Prop := fun A => va_Qi post (fun u t => va_P D vwCl (w' u) t.heap ∧ va_D A (w' u)) A
abbrev Ul {S : Type} (D : va_G) (post : Int64 → S → Prop) (w' : S → va_W) : (Nat → Prop) → Array Value → State → Outcome → State → Prop := fun A => va_Ql post (fun u t => va_P D vwCl (w' u) t.heap ∧ va_D A (w' u)) A
abbrev Uv {S : Type} (D : va_G) (post : S → Prop) (w' : S → va_W) : (Nat → Prop) → Array Value → State → Outcome → State → Prop := fun A => va_Qv post (fun u t => va_P D vwCl (w' u) t.heap ∧ va_D A (w' u)) A
theorem RO.of {l : Launch} {y : MethodName} {cc : ByteArray} {n : Nat} {r : Option FieldType} {d : Nat} {D : va_G} {k : Nat → ClassId} {z : Nat → Nat} {av : List Value} {w : va_W} {Qf : (Nat → Prop) → Array Value → State → Outcome → State → Prop} (hy : plainName y.cls = true) (hn : (lg_sl av).length ≤ n)
    (body : ∀ (p : Program) (e : Env) (s : State) (m : MethodId) (below : List Frame) (meth : Method) (c : Code) (ls : Array Slot) (A B : Nat → Prop) (args : Array Value) (Q : State → Prop), CallFix p m c cc n s args TB y.cls → meth.sig.returnType = r → meth.locks = false → Q = MQ below (Qf A) args s 0 0 A → KK D k s → va_P D vwCl w s.heap → va_D B w → SKp z B s → (∀ q, A q → B q) → (∀ q, s.heap.size ≤ q → B q) → (∀ q, s.heap.size ≤ q → A q) → va_S A s.heap s.heap [] → lv_has ls n (lv_args 0 av) → W p l e (Rm d 0 0) s m args below meth c s.heap [] 0 0 Q (F0 m 0 ls [])) : RO l y cc n r d D k z av w Qf := by
  intro sz
  refine Met.ofW (cc := cc) (maxL := n) (ret := r) hy rfl ?_
  intro p e s m args below meth c s₁ B hml hv
  obtain ⟨rfl, hsz, hP, hK, hDW, hZ⟩ := hv
  subst hsz
  rw [lg_entry_eq]
  exact body p e s m below meth c _ _ (va_A w s.heap.size) _ _ ⟨B.exec, B.bytes, hml, findClass_of_methodNamed B.named, fun w hw => atoms_spec (ws := WS y cc n r) B.pre w (List.mem_cons_of_mem _ hw)⟩ B.returns B.notSynchronized rfl hK hP hDW.self hZ (fun _ h => Or.inr h) (fun _ h => Or.inr h) (fun _ h => h) va_S.rf (lv_entry av hn)
theorem MU.of {l : Launch} {y : MethodName} {cc : ByteArray} {n : Nat} {r : Option FieldType} {d mc ms : Nat} {D : va_G} {k : Nat → ClassId} {z : Nat → Nat} {av : List Value} {w : va_W} {Qf : (Nat → Prop) → Array Value → State → Outcome → State → Prop} (hy : plainName y.cls = true) (hn : (lg_sl av).length ≤ n)
    (body : ∀ (p : Program) (e : Env) (s : State) (m : MethodId) (below : List Frame) (meth : Method) (c : Code) (ls : Array Slot) (A : Nat → Prop) (args : Array Value) (Q : State → Prop), CallFix p m c cc n s args TB y.cls → meth.sig.returnType = r → meth.locks = false → meth.name = y.name → Q = MQ below (Qf A) args s mc ms A → KK D k s → va_P D vwCl w s.heap → va_D A w → SKp z A s → (∀ q, s.heap.size ≤ q → A q) → va_S A s.heap s.heap [] → lv_has ls n (lv_args 0 av) → W p l e (Rm d mc ms) s m args below meth c s.heap [] 0 0 Q (F0 m 0 ls [])) : MU l y cc n r d D k z av w mc ms Qf := by
  intro sz
  refine Met.ofW (cc := cc) (maxL := n) (ret := r) hy rfl ?_
  intro p e s m args below meth c s₁ B hml hv
  obtain ⟨rfl, hsz, hP, hK, hD, hZ⟩ := hv
  subst hsz
  rw [lg_entry_eq]
  exact body p e s m below meth c _ _ _ _ ⟨B.exec, B.bytes, hml, findClass_of_methodNamed B.named, fun w hw => atoms_spec (ws := WS y cc n r) B.pre w (List.mem_cons_of_mem _ hw)⟩ B.returns B.notSynchronized (name_of_methodNamed B.named B.method).1 rfl hK hP hD.self hZ (fun _ h => Or.inr h) va_S.rf (lv_entry av hn)

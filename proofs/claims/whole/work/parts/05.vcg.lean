/-! A machine over places: what a method does to numbers at places, as propositions; and why the machine does the same. -/
abbrev gx_M : Type := Nat → Nat → Int32
abbrev gx_X : Type := Launch × va_G × (Nat → Nat) × (FieldType → ClassId)
def gx_cv (ad : Nat → Nat) (v : Value) : Value := match v with
  | .ref p => .ref (ad p)
  | w => w
def gx_sv (ad : Nat → Nat) (f : Nat → Int32) (k : Nat) (o : Option Nat) : Value := match o with
  | none => .int (f k)
  | some q => .ref (ad q)
def gx_e (ad : Nat → Nat) (cA : FieldType → ClassId) (f : Nat → Int32) (x : gx_L) : va_E := match x with
  | .inl (ty, n) => .inl (cA ty, n, .inl f)
  | .inr (.inl (ci, sl)) => .inr (ci, sl.mapIdx (gx_sv ad f))
  | .inr (.inr qs) => .inl (cA (.array .int), qs.length, .inr (.inr (.inr (.inr (fun i => (qs[i]?).map ad)))))
def gx_ws (ad : Nat → Nat) (cA : FieldType → ClassId) (M : gx_M) : va_W := gx_Ly.mapIdx (fun p x => (ad p, gx_e ad cA (M p) x))
abbrev gx_tys (cA : FieldType → ClassId) : List (ClassId × FieldType) := [(cA .int, .int), (cA .boolean, .boolean), (cA (.array .int), .array .int)]
theorem gx_ws_at {ad : Nat → Nat} {cA : FieldType → ClassId} {M : gx_M} {p : Nat} {x : gx_L} (h : gx_at p = some x) : (gx_ws ad cA M)[p]? = some (ad p, gx_e ad cA (M p) x) := by
  unfold gx_ws
  rw [List.getElem?_mapIdx]
  unfold gx_at at h
  rw [h]
  rfl
theorem gx_ws_set {ad : Nat → Nat} {cA : FieldType → ClassId} {M : gx_M} {p : Nat} {x : gx_L} (h : gx_at p = some x) (f : Nat → Int32) : (gx_ws ad cA M).set p (ad p, gx_e ad cA f x) = gx_ws ad cA (va_up M p f) := by
  unfold gx_at at h
  apply List.ext_getElem?
  intro i
  unfold gx_ws
  by_cases hi : p = i
  · subst hi
    rw [List.getElem?_set_self (by rw [List.length_mapIdx]; exact (List.getElem?_eq_some_iff.mp h).1), List.getElem?_mapIdx, h]
    simp [va_up]
  · rw [List.getElem?_set_ne hi, List.getElem?_mapIdx, List.getElem?_mapIdx]
    have hne : ¬ i = p := fun z => hi z.symm
    have e : va_up M p f i = M i := by simp [va_up, hne]
    rw [e]
theorem gx_sl_set {ad : Nat → Nat} {f : Nat → Int32} {sl : List (Option Nat)} {k : Nat} (h : sl[k]? = some none) (x : Int32) : (sl.mapIdx (gx_sv ad f)).set k (.int x) = sl.mapIdx (gx_sv ad (upd f k x)) := by
  apply List.ext_getElem?
  intro i
  by_cases hi : k = i
  · subst hi
    rw [List.getElem?_set_self (by rw [List.length_mapIdx]; exact (List.getElem?_eq_some_iff.mp h).1), List.getElem?_mapIdx, h]
    simp [gx_sv, upd]
  · rw [List.getElem?_set_ne hi, List.getElem?_mapIdx, List.getElem?_mapIdx]
    cases hs : sl[i]? with
    | none => rfl
    | some o =>
      cases o with
      | none =>
        have hne : ¬ i = k := fun z => hi z.symm
        simp [gx_sv, upd, hne]
      | some q => rfl
def gx_lv (ad : Nat → Nat) (lo : List Value) : List (Nat × Value) := (lo.mapIdx (fun i v => (i, v))).filterMap (fun q => if q.2 = .null then none else some (q.1, gx_cv ad q.2))
theorem gx_lv_mem {ad : Nat → Nat} {lo : List Value} {q : Nat × Value} : q ∈ gx_lv ad lo ↔ ∃ v, lo[q.1]? = some v ∧ v ≠ .null ∧ q.2 = gx_cv ad v := by
  obtain ⟨i, w⟩ := q
  unfold gx_lv
  rw [List.mem_filterMap]
  constructor
  · rintro ⟨⟨j, v⟩, h1, h2⟩
    obtain ⟨k, hk⟩ := List.getElem?_of_mem h1
    rw [List.getElem?_mapIdx] at hk
    by_cases hv : v = .null
    · simp [hv] at h2
    · simp only [hv, if_false, Option.some.injEq, Prod.mk.injEq] at h2
      obtain ⟨rfl, rfl⟩ := h2
      cases hl : lo[k]? with
      | none => rw [hl] at hk; cases hk
      | some u =>
        rw [hl] at hk
        simp only [Option.map_some, Option.some.injEq, Prod.mk.injEq] at hk
        obtain ⟨rfl, rfl⟩ := hk
        exact ⟨_, hl, hv, rfl⟩
  · rintro ⟨v, h1, h2, h3⟩
    refine ⟨(i, v), ?_, ?_⟩
    · apply List.mem_of_getElem? (i := i)
      rw [List.getElem?_mapIdx, h1]
      rfl
    · have h4 : w = gx_cv ad v := h3
      simp only [h2, if_false, h4]
theorem gx_cv_cat (ad : Nat → Nat) (v : Value) : (gx_cv ad v).category = v.category := by cases v <;> rfl
theorem gx_lv_at {ad : Nat → Nat} {lo : List Value} {ls : Array Slot} {nL k : Nat} {v : Value} (h : lv_has ls nL (gx_lv ad lo)) (hv : lo.getD k .null = v) (hn : v ≠ .null) : ls[k]? = some (.val (gx_cv ad v)) := by
  refine h.2.2 (k, gx_cv ad v) (gx_lv_mem.mpr ⟨v, ?_, hn, rfl⟩)
  rw [List.getD_eq_getElem?_getD] at hv
  cases hl : lo[k]? with
  | none => rw [hl] at hv; exact absurd hv.symm hn
  | some u => rw [hl] at hv; exact congrArg some hv
theorem gx_lv_set {ad : Nat → Nat} {lo : List Value} {ls : Array Slot} {nL k : Nat} {v : Value} (hlo : ∀ v ∈ lo, v.category = 1) (hk : k < lo.length)
    (h : lv_has ls nL ((k, gx_cv ad v) :: (gx_lv ad lo).filter (fun q => !(q.1 == k) && !(q.1 + 1 == k && q.2.category == 2)))) : lv_has ls nL (gx_lv ad (lo.set k v)) := by
  refine ⟨h.1, h.2.1, fun q hq => h.2.2 q ?_⟩
  obtain ⟨w, h1, h2, h3⟩ := gx_lv_mem.mp hq
  by_cases hi : k = q.1
  · rw [← hi, List.getElem?_set_self hk] at h1
    cases h1
    obtain ⟨a, b⟩ := q
    dsimp only at hi h3
    subst hi; subst h3
    exact List.mem_cons_self
  · rw [List.getElem?_set_ne hi] at h1
    refine List.mem_cons_of_mem _ (List.mem_filter.mpr ⟨gx_lv_mem.mpr ⟨w, h1, h2, h3⟩, ?_⟩)
    have hc : q.2.category = 1 := by rw [h3, gx_cv_cat]; exact hlo w (List.mem_of_getElem? h1)
    have e1 : (q.1 == k) = false := by simpa using fun z => hi z.symm
    simp [e1, hc]
theorem gx_set_cat {lo : List Value} {k : Nat} {v : Value} (hlo : ∀ v ∈ lo, v.category = 1) (hv : v.category = 1) : ∀ w ∈ lo.set k v, w.category = 1 := by
  intro w hw
  rcases List.mem_or_eq_of_mem_set hw with h | h
  · exact hlo w h
  · rw [h]; exact hv
theorem gx_cons_cat {st : List Value} {v : Value} (hst : ∀ v ∈ st, v.category = 1) (hv : v.category = 1) : ∀ w ∈ v :: st, w.category = 1 := by
  intro w hw
  rcases List.mem_cons.mp hw with h | h
  · rw [h]; exact hv
  · exact hst w h
/-- a number is written at a place -/
def gx_w (M : gx_M) (p k : Nat) (x : Int32) : gx_M := fun q j => if q = p ∧ j = k then x else M q j
theorem gx_w_eq (M : gx_M) (p k : Nat) (x : Int32) : gx_w M p k x = va_up M p (upd (M p) k x) := by
  funext q j
  by_cases h : q = p
  · subst h
    simp [gx_w, va_up, upd]
  · simp [gx_w, va_up, h]
/-- a stretch is copied -/
def gx_cp (M : gx_M) (q0 q1 sp dp n : Nat) : gx_M := fun q j => if q = q1 ∧ dp ≤ j ∧ j < dp + n then M q0 (sp + (j - dp)) else M q j
theorem gx_cp_eq (M : gx_M) (q0 q1 sp dp n : Nat) : gx_cp M q0 q1 sp dp n = va_up M q1 (va_cpy (M q0) (M q1) sp dp n) := by
  funext q j
  by_cases h : q = q1
  · subst h
    simp [gx_cp, va_up, va_cpy]
  · simp [gx_cp, va_up, h]
/-- the form of an answer -/
def gx_shp (ret : Option FieldType) (v : Option Value) : Prop := match ret with
  | none => v = none
  | some .int => ∃ x, v = some (.int x)
  | some .boolean => ∃ x, v = some (.int x)
  | some (.array _) => ∃ q, v = some (.ref q)
  | _ => True
def gx_nx (ret : Option FieldType) (v : Option Value) (K : List Value → Prop) : Prop := match ret with
  | none => K []
  | some .int => ∀ x, v = some (.int x) → K [.int x]
  | some .boolean => ∀ x, v = some (.int x) → K [.int x]
  | some (.array _) => ∀ q, v = some (.ref q) → K [.ref q]
  | _ => False
theorem gx_nx_ok {ret : Option FieldType} {v : Option Value} {K : List Value → Prop} (h : gx_nx ret v K) (hs : gx_shp ret v) : K v.toList := by
  unfold gx_nx at h
  unfold gx_shp at hs
  split at h
  · subst hs; exact h
  · obtain ⟨x, rfl⟩ := hs; exact h x rfl
  · obtain ⟨x, rfl⟩ := hs; exact h x rfl
  · obtain ⟨x, rfl⟩ := hs; exact h x rfl
  · exact h.elim
/-- how a method ends -/
def gx_Q (X : gx_X) (ret : Option FieldType) (Post : Option Value → gx_M → Prop) (A : Nat → Prop) : Array Value → State → Outcome → State → Prop := fun _ st oc t =>
  (∃ (v : Option Value) (u : gx_M), oc = .returned (v.map (gx_cv X.2.2.1)) ∧ Post v u ∧ (gx_shp ret v ∧ ∀ w ∈ v.toList, w.category = 1) ∧ va_P X.2.1 gx_cl (gx_ws X.2.2.1 X.2.2.2 u) t.heap ∧ va_K X.2.1 gx_cl (gx_tys X.2.2.2) t ∧ va_D A (gx_ws X.2.2.1 X.2.2.2 u)) ∧ va_F A st t
/-- from here the method returns, with Post -/
def gx_OK (X : gx_X) (μ pc : Nat) (lo st : List Value) (M : gx_M) (Post : Option Value → gx_M → Prop) : Prop :=
  ∀ (p : Program) (e : Env) (s : State) (m : MethodId) (args : Array Value) (below : List Frame) (meth : Method) (c : Code) (A : Nat → Prop) (H : Heap) (locs : List Loc) (ls : Array Slot),
    CallFix p m c (gx_code μ) (gx_mL μ) s args (gx_wd μ) (gx_os (gx_on μ)) → meth.sig.returnType = gx_ret μ → meth.locks = false →
    va_K X.2.1 gx_cl (gx_tys X.2.2.2) s → va_P X.2.1 gx_cl (gx_ws X.2.2.1 X.2.2.2 M) H → va_D A (gx_ws X.2.2.1 X.2.2.2 M) → (∀ q, s.heap.size ≤ q → A q) → va_S A s.heap H locs →
    lo.length = gx_mL μ → (∀ v ∈ lo, v.category = 1) → (∀ v ∈ st, v.category = 1) → lv_has ls (gx_mL μ) (gx_lv X.2.2.1 lo) →
    W p X.1 e (headSpec (gx_wd μ) (gx_rm μ)).room s m args below meth c H locs 0 0 (MQ below (gx_Q X (gx_ret μ) Post A) args s 0 0 A) (F0 m pc ls (st.map (gx_cv X.2.2.1)))
/-- a call -/
def gx_C (X : gx_X) (μ : Nat) (as : List Value) (M : gx_M) (Post : Option Value → gx_M → Prop) : Prop := gx_OK X μ 0 (as ++ List.replicate (gx_mL μ - as.length) .null) [] M Post
def gx_cnd (c : Jvm.ClassFile.Cond) (x y : Int32) : Prop := match c with
  | .eq => x = y
  | .ne => ¬ x = y
  | .lt => x < y
  | .ge => y ≤ x
  | .gt => y < x
  | .le => x ≤ y
def gx_bl (x : Int32) : Prop := x = 0 ∨ x = 1
def gx_step (G : Nat → List Value → List Value → gx_M → Prop) (Cc : Nat → List Value → gx_M → (Option Value → gx_M → Prop) → Prop) (Post : Option Value → gx_M → Prop) (μ pc : Nat) (i : Instr) (t : Nat) (lo st : List Value) (M : gx_M) : Prop :=
  match i with
  | .aload_n k => match lo.getD k.val .null with
    | .ref q => G (pc + 1) lo (.ref q :: st) M
    | _ => False
  | .iload_n k => match lo.getD k.val .null with
    | .int x => G (pc + 1) lo (.int x :: st) M
    | _ => False
  | .aload k => match lo.getD k .null with
    | .ref q => G (pc + 2) lo (.ref q :: st) M
    | _ => False
  | .iload k => match lo.getD k .null with
    | .int x => G (pc + 2) lo (.int x :: st) M
    | _ => False
  | .astore_n k => match st with
    | .ref q :: st => k.val < lo.length ∧ G (pc + 1) (lo.set k.val (.ref q)) st M
    | _ => False
  | .istore_n k => match st with
    | .int x :: st => k.val < lo.length ∧ G (pc + 1) (lo.set k.val (.int x)) st M
    | _ => False
  | .istore k => match st with
    | .int x :: st => k < lo.length ∧ G (pc + 2) (lo.set k (.int x)) st M
    | _ => False
  | .iconst z => G (pc + 1) lo (.int (Int32.ofInt z) :: st) M
  | .bipush z => G (pc + 2) lo (.int (Int8.ofInt z).toInt32 :: st) M
  | .sipush z => G (pc + 3) lo (.int (Int16.ofInt z).toInt32 :: st) M
  | .ldc k => match gx_cn (gx_on μ) k with
    | some v => G (pc + 2) lo (.int v :: st) M
    | none => False
  | .iadd => match st with
    | .int y :: .int x :: st => G (pc + 1) lo (.int (x + y) :: st) M
    | _ => False
  | .isub => match st with
    | .int y :: .int x :: st => G (pc + 1) lo (.int (x - y) :: st) M
    | _ => False
  | .imul => match st with
    | .int y :: .int x :: st => G (pc + 1) lo (.int (x * y) :: st) M
    | _ => False
  | .idiv => match st with
    | .int y :: .int x :: st => (¬ y = 0) ∧ G (pc + 1) lo (.int (x / y) :: st) M
    | _ => False
  | .iand => match st with
    | .int y :: .int x :: st => G (pc + 1) lo (.int (x &&& y) :: st) M
    | _ => False
  | .ixor => match st with
    | .int y :: .int x :: st => G (pc + 1) lo (.int (x ^^^ y) :: st) M
    | _ => False
  | .ishr => match st with
    | .int y :: .int x :: st => G (pc + 1) lo (.int (x >>> (y &&& 31)) :: st) M
    | _ => False
  | .ineg => match st with
    | .int x :: st => G (pc + 1) lo (.int (-x) :: st) M
    | _ => False
  | .iinc k z => match lo.getD k .null with
    | .int x => k < lo.length ∧ G (pc + 3) (lo.set k (.int (x + Int32.ofInt z))) st M
    | _ => False
  | .dup => match st with
    | v :: st => G (pc + 1) lo (v :: v :: st) M
    | _ => False
  | .dup2 => match st with
    | v :: u :: st => G (pc + 1) lo (v :: u :: v :: u :: st) M
    | _ => False
  | .pop => match st with
    | _ :: st => G (pc + 1) lo st M
    | _ => False
  | .goto _ => G t lo st M
  | .ifCond c _ => match st with
    | .int x :: st => (gx_cnd c x 0 → G t lo st M) ∧ (¬ gx_cnd c x 0 → G (pc + 3) lo st M)
    | _ => False
  | .if_icmp c _ => match st with
    | .int y :: .int x :: st => (gx_cnd c x y → G t lo st M) ∧ (¬ gx_cnd c x y → G (pc + 3) lo st M)
    | _ => False
  | .getfield k => match st with
    | .ref p :: st => match gx_fl (gx_on μ) k, gx_at p with
      | some (ci, j), some (.inr (.inl (cj, sl))) => ci = cj ∧ match sl[j]? with
        | some none => G (pc + 3) lo (.int (M p j) :: st) M
        | some (some q) => G (pc + 3) lo (.ref q :: st) M
        | none => False
      | _, _ => False
    | _ => False
  | .putfield k => match st with
    | .int x :: .ref p :: st => match gx_fl (gx_on μ) k, gx_at p with
      | some (ci, j), some (.inr (.inl (cj, sl))) => ci = cj ∧ sl[j]? = some none ∧ (match gx_ty ci j with
        | .int => True
        | .boolean => gx_bl x
        | _ => False) ∧ G (pc + 3) lo st (gx_w M p j x)
      | _, _ => False
    | _ => False
  | .iaload => match st with
    | .int i :: .ref p :: st => match gx_at p with
      | some (.inl (.int, n)) => (0 ≤ i.toInt ∧ i.toInt < (n : Int)) ∧ G (pc + 1) lo (.int (M p i.toInt.toNat) :: st) M
      | _ => False
    | _ => False
  | .baload => match st with
    | .int i :: .ref p :: st => match gx_at p with
      | some (.inl (.boolean, n)) => (0 ≤ i.toInt ∧ i.toInt < (n : Int)) ∧ G (pc + 1) lo (.int (M p i.toInt.toNat) :: st) M
      | _ => False
    | _ => False
  | .iastore => match st with
    | .int x :: .int i :: .ref p :: st => match gx_at p with
      | some (.inl (.int, n)) => (0 ≤ i.toInt ∧ i.toInt < (n : Int)) ∧ G (pc + 1) lo st (gx_w M p i.toInt.toNat x)
      | _ => False
    | _ => False
  | .bastore => match st with
    | .int x :: .int i :: .ref p :: st => match gx_at p with
      | some (.inl (.boolean, n)) => gx_bl x ∧ (0 ≤ i.toInt ∧ i.toInt < (n : Int)) ∧ G (pc + 1) lo st (gx_w M p i.toInt.toNat x)
      | _ => False
    | _ => False
  | .aaload => match st with
    | .int i :: .ref p :: st => match gx_at p with
      | some (.inr (.inr qs)) => (0 ≤ i.toInt ∧ i.toInt < (qs.length : Int)) ∧ G (pc + 1) lo (.ref (qs.getD i.toInt.toNat 0) :: st) M
      | _ => False
    | _ => False
  | .arraylength => match st with
    | .ref p :: st => match gx_at p with
      | some (.inl (.int, n)) => G (pc + 1) lo (.int (Int32.ofNat n) :: st) M
      | _ => False
    | _ => False
  | .invokevirtual k => match gx_ml (gx_on μ) k with
    | some (ν, n, true) => match (st.take n).reverse with
      | .ref p :: as => match gx_at p with
        | some (.inr (.inl (cj, _))) => cj = gx_on ν ∧ n ≤ st.length ∧ st.length ≤ n + 8 ∧ Cc ν (.ref p :: as) M (fun r M1 => gx_nx (gx_ret ν) r (fun sr => G (pc + 3) lo (sr ++ st.drop n) M1))
        | _ => False
      | _ => False
    | _ => False
  | .invokestatic k => match gx_ml (gx_on μ) k with
    | some (ν, n, false) => n ≤ st.length ∧ st.length ≤ n + 8 ∧ Cc ν ((st.take n).reverse) M (fun r M1 => gx_nx (gx_ret ν) r (fun sr => G (pc + 3) lo (sr ++ st.drop n) M1))
    | some (_, _, true) => False
    | none => match gx_aT.lookup (gx_on μ, k), st with
      | some _, .int n :: .int dp :: .ref q1 :: .int sp :: .ref q0 :: st => match gx_at q0, gx_at q1 with
        | some (.inl (.int, n0)), some (.inl (.int, n1)) => st.length ≤ 8 ∧ (0 ≤ sp.toInt ∧ 0 ≤ dp.toInt ∧ 0 ≤ n.toInt ∧ sp.toInt + n.toInt ≤ (n0 : Int) ∧ dp.toInt + n.toInt ≤ (n1 : Int)) ∧ G (pc + 3) lo st (gx_cp M q0 q1 sp.toInt.toNat dp.toInt.toNat n.toInt.toNat)
        | _, _ => False
      | _, _ => False
  | .ireturn => match st with
    | [.int v] => (match gx_ret μ with
      | some .int => True
      | some .boolean => gx_bl v
      | _ => False) ∧ Post (some (.int v)) M
    | _ => False
  | .areturn => match st with
    | [.ref p] => (match gx_ret μ with
      | some (.array _) => True
      | _ => False) ∧ Post (some (.ref p)) M
    | _ => False
  | .return_ => match st with
    | [] => gx_ret μ = none ∧ Post none M
    | _ => False
  | _ => False
/-- the instructions from pc on, up to the next loop's head; at most n -/
def gx_wp (X : gx_X) (μ : Nat) (Post : Option Value → gx_M → Prop) : Nat → Bool → Nat → List Value → List Value → gx_M → Prop
  | 0, _, pc, lo, st, M => gx_OK X μ pc lo st M Post
  | n + 1, b, pc, lo, st, M => match gx_ins μ pc with
    | none => False
    | some (c, i, t) => if (b && c) = true then gx_OK X μ pc lo st M Post else gx_step (gx_wp X μ Post n true) (gx_C X) Post μ pc i t lo st M

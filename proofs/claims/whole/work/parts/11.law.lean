/-! THE CLAIM OUT OF ONE WALK OF THE LAW'S BODY. Your part is whole_start (and what it stands on); all else here is the same for every law, but numbers. -/
def R_law : String := "GreatestFlowLaw"
def lw_P (b : Addr) (xs : List Int32) (args : Array Value) (s : State) : Prop := args = #[.ref b] ∧ s.IntsAt b xs ∧ xs.length ≤ 2560 ∧ (Jvm.Cond.and given_1 narrow_1).before args s = true
def lw_Q (_ : Array Value) (s : State) (o : Outcome) (t : State) : Prop := o = .returned (some (.int 1)) ∧ Framed s o t [] 600000 7302250
def lw_Z (below : List Frame) (a : Array Value) (s : State) : State → Prop := fun t => ∃ o, t.status = .running ∧ Ended t below o ∧ lw_Q a s o t
/-- the law's own end, with 1 on the stack, nothing written that was there before, its room as the claim has it -/
theorem lw_ret {p : Program} {l : Launch} {e : Env} {s : State} {m : MethodId} {below : List Frame} {meth : Method} {c : Code} {b : Nat} (hx : p.tables.exec = Jvm.exec) (hb : c.code = code) (hr : meth.sig.returnType = ret) (hlocks : meth.locks = false) {pc : Nat} {H : Heap} {ls : Array Slot} (hdg : decode code pc = .ok (.ireturn, 1)) : W p l e room_1 s m #[Value.ref b] below meth c H [] 600000 7302250 (lw_Z below #[Value.ref b] s) (F0 m pc ls [.int 1]) := by
  intro T hT X
  obtain ⟨fs, hret, hrun, hended, hW, hframe⟩ := X.leave (v := some (.int 1)) (hlocks := hlocks) (fun h => by rw [hr] at h; cases h)
  have hmeth' : T.vm.method? m = some meth := X.method'
  refine ⟨T.setFrames fs, ?_, .returned (some (.int 1)), hrun, hended, rfl, ⟨_, rfl⟩, hW, hframe⟩
  jvm_step X.here [X.here.top, hx, hb, hdg, hmeth', hr, ret, narrow_b1]
  (try refine ⟨rfl, ?_⟩); (try refine ⟨rfl, ?_⟩)
  first | (intro acts; rw [hret _ acts rfl rfl rfl]) | rw [hret _ _ rfl rfl rfl]
  exact Steps.refl _
/-- what holds at the law's entry: the machine, the code, the tables' words (any of lw_tbl by 'hts w (by decide +kernel)'), the script of L ints xs at the cell b, what the Statement gives of the start (any of its parts by flat_of_before) -/
def lw_At (p : Program) (s : State) (m : MethodId) (meth : Method) (c : Code) (b L : Nat) (xs : Nat → Int32) : Prop :=
  p.tables.exec = Jvm.exec ∧ c.code = code ∧ meth.sig.returnType = ret ∧ c.maxLocals = 4 ∧ s.vm.findClass R_law = some m.cls ∧ (∀ w ∈ lw_tbl, w.before #[Value.ref b] s = true) ∧ va_X b L xs s s.heap ∧ b < s.heap.size ∧ meth.locks = false ∧ (Jvm.Cond.and given_1 narrow_1).before #[Value.ref b] s = true
/-! The law's loop, whatever holds between the calls. -/
def lw_T (X : gx_X) (p : Program) (e : Env) (s : State) (m : MethodId) (below : List Frame) (meth : Method) (c : Code) (b : Nat) (pc : Nat) (lo st : List Value) (M : gx_M) : Prop := ∀ (H : Heap) (locs : List Loc) (ls : Array Slot),
  va_P X.2.1 gx_cl (gx_ws X.2.2.1 X.2.2.2 M) H → va_D (fun q : Nat => s.heap.size ≤ q) (gx_ws X.2.2.1 X.2.2.2 M) → va_S (fun q : Nat => s.heap.size ≤ q) s.heap H locs → lv_has ls 4 (gx_lv X.2.2.1 lo) →
  W p X.1 e room_1 s m #[Value.ref b] below meth c H locs 58 4630 (lw_Z below #[Value.ref b] s) (F0 m pc ls (st.map (gx_cv X.2.2.1)))
/-- what stays true all through the law's body -/
def lw_C (X : gx_X) (p : Program) (s : State) (m : MethodId) (meth : Method) (c : Code) (b L : Nat) (xs : Nat → Int32) : Prop := lw_At p s m meth c b L xs ∧ va_K X.2.1 gx_cl (gx_tys X.2.2.2) s ∧ X.2.2.1 58 = b ∧ L ≤ 2560
section LWT
variable {X : gx_X} {p : Program} {e : Env} {s : State} {m : MethodId} {below : List Frame} {meth : Method} {c : Code} {b L : Nat} {xs : Nat → Int32} {pc : Nat} {lo st : List Value} {M : gx_M}
theorem lt_aload (C : lw_C X p s m meth c b L xs) {k : Fin 4} {q : Nat} (hd : decode code pc = .ok (.aload_n k, 1)) (hq : lo.getD k.val .null = .ref q) (h : lw_T X p e s m below meth c b (pc + 1) lo (.ref q :: st) M) : lw_T X p e s m below meth c b pc lo st M :=
  fun H locs ls hP hD hS hl => lv_aload_n C.1.1 C.1.2.1 hd rfl (gx_lv_at hl hq (fun z => by cases z)) (h H locs ls hP hD hS hl)
theorem lt_iload (C : lw_C X p s m meth c b L xs) {k : Fin 4} {x : Int32} (hd : decode code pc = .ok (.iload_n k, 1)) (hq : lo.getD k.val .null = .int x) (h : lw_T X p e s m below meth c b (pc + 1) lo (.int x :: st) M) : lw_T X p e s m below meth c b pc lo st M :=
  fun H locs ls hP hD hS hl => lv_iload_n C.1.1 C.1.2.1 hd rfl (gx_lv_at hl hq (fun z => by cases z)) (h H locs ls hP hD hS hl)
theorem lt_iconst (C : lw_C X p s m meth c b L xs) {n : Int} {v : Int32} (hd : decode code pc = .ok (.iconst n, 1)) (hv : Int32.ofInt n = v) (h : lw_T X p e s m below meth c b (pc + 1) lo (.int v :: st) M) : lw_T X p e s m below meth c b pc lo st M :=
  fun H locs ls hP hD hS hl => lv_iconst C.1.1 C.1.2.1 hd hv (h H locs ls hP hD hS hl)
theorem lt_bipush (C : lw_C X p s m meth c b L xs) {n : Int} {v : Int32} (hd : decode code pc = .ok (.bipush n, 2)) (hv : (Int8.ofInt n).toInt32 = v) (h : lw_T X p e s m below meth c b (pc + 2) lo (.int v :: st) M) : lw_T X p e s m below meth c b pc lo st M :=
  fun H locs ls hP hD hS hl => lv_bipush C.1.1 C.1.2.1 hd hv (h H locs ls hP hD hS hl)
theorem lt_iadd (C : lw_C X p s m meth c b L xs) {x y : Int32} (hd : decode code pc = .ok (.iadd, 1)) (h : lw_T X p e s m below meth c b (pc + 1) lo (.int (x + y) :: st) M) : lw_T X p e s m below meth c b pc lo (.int y :: .int x :: st) M :=
  fun H locs ls hP hD hS hl => lv_iadd C.1.1 C.1.2.1 hd (h H locs ls hP hD hS hl)
theorem lt_isub (C : lw_C X p s m meth c b L xs) {x y : Int32} (hd : decode code pc = .ok (.isub, 1)) (h : lw_T X p e s m below meth c b (pc + 1) lo (.int (x - y) :: st) M) : lw_T X p e s m below meth c b pc lo (.int y :: .int x :: st) M :=
  fun H locs ls hP hD hS hl => lv_isub C.1.1 C.1.2.1 hd (h H locs ls hP hD hS hl)
theorem lt_iand (C : lw_C X p s m meth c b L xs) {x y : Int32} (hd : decode code pc = .ok (.iand, 1)) (h : lw_T X p e s m below meth c b (pc + 1) lo (.int (x &&& y) :: st) M) : lw_T X p e s m below meth c b pc lo (.int y :: .int x :: st) M :=
  fun H locs ls hP hD hS hl => lv_iand C.1.1 C.1.2.1 hd (h H locs ls hP hD hS hl)
theorem lt_sld (C : lw_C X p s m meth c b L xs) {i : Int32} (hd : decode code pc = .ok (.iaload, 1)) (hin : vp_in i L) (h : lw_T X p e s m below meth c b (pc + 1) lo (.int (xs i.toNatClampNeg) :: st) M) : lw_T X p e s m below meth c b pc lo (.int i :: .ref 58 :: st) M := by
  intro H locs ls hP hD hS hl
  obtain ⟨⟨hx, hb, hr, hml, hown, hts, hX, hbl, hlocks, hgv⟩, hK, e58, hL⟩ := C
  show W _ _ _ _ _ _ _ _ _ _ _ _ _ _ _ (F0 m pc ls (.int i :: .ref (X.2.2.1 58) :: st.map (gx_cv X.2.2.1)))
  rw [e58]
  exact va_sld hx hb hX hbl (Nat.not_le.mpr hbl) hS hin hd (h H locs ls hP hD hS hl)
theorem lt_slen (C : lw_C X p s m meth c b L xs) (hd : decode code pc = .ok (.arraylength, 1)) (h : lw_T X p e s m below meth c b (pc + 1) lo (.int (Int32.ofNat L) :: st) M) : lw_T X p e s m below meth c b pc lo (.ref 58 :: st) M := by
  intro H locs ls hP hD hS hl
  obtain ⟨⟨hx, hb, hr, hml, hown, hts, hX, hbl, hlocks, hgv⟩, hK, e58, hL⟩ := C
  show W _ _ _ _ _ _ _ _ _ _ _ _ _ _ _ (F0 m pc ls (.ref (X.2.2.1 58) :: st.map (gx_cv X.2.2.1)))
  rw [e58]
  exact va_slen hx hb hX hbl (Nat.not_le.mpr hbl) hS hd (h H locs ls hP hD hS hl)
theorem lt_eq (C : lw_C X p s m meth c b L xs) {x y : Int32} {off : Int} (tgt : Nat) (hd : decode code pc = .ok (.if_icmp .eq off, 3)) (ht : (pc : Int) + off = (tgt : Int)) (he : x = y) (h : lw_T X p e s m below meth c b tgt lo st M) : lw_T X p e s m below meth c b pc lo (.int y :: .int x :: st) M :=
  fun H locs ls hP hD hS hl => lv_icmp_eq C.1.1 C.1.2.1 hd ht (fun _ => h H locs ls hP hD hS hl) (fun q => absurd he q)
theorem lt_gt (C : lw_C X p s m meth c b L xs) {x y : Int32} {off : Int} (tgt : Nat) (hd : decode code pc = .ok (.if_icmp .gt off, 3)) (ht : (pc : Int) + off = (tgt : Int)) (h1 : y < x → lw_T X p e s m below meth c b tgt lo st M) (h2 : ¬ y < x → lw_T X p e s m below meth c b (pc + 3) lo st M) : lw_T X p e s m below meth c b pc lo (.int y :: .int x :: st) M :=
  fun H locs ls hP hD hS hl => lv_icmp_gt C.1.1 C.1.2.1 hd ht (fun q => h1 q H locs ls hP hD hS hl) (fun q => h2 q H locs ls hP hD hS hl)
theorem lt_goto (C : lw_C X p s m meth c b L xs) {off : Int} (tgt : Nat) (hd : decode code pc = .ok (.goto off, 3)) (ht : (pc : Int) + off = (tgt : Int)) (h : lw_T X p e s m below meth c b tgt lo st M) : lw_T X p e s m below meth c b pc lo st M :=
  fun H locs ls hP hD hS hl => lv_goto C.1.1 C.1.2.1 hd ht (h H locs ls hP hD hS hl)
theorem lt_iinc (C : lw_C X p s m meth c b L xs) {k : Nat} {n : Int} {x v : Int32} (hd : decode code pc = .ok (.iinc k n, 3)) (hq : lo[k]? = some (.int x)) (hv : x + Int32.ofInt n = v) (hk : k < 4) (hlen : lo.length = 4) (hlo : ∀ v ∈ lo, v.category = 1) (h : lw_T X p e s m below meth c b (pc + 3) (lo.set k (.int v)) st M) : lw_T X p e s m below meth c b pc lo st M := by
  intro H locs ls hP hD hS hl
  have hm : (k, Value.int x) ∈ gx_lv X.2.2.1 lo := gx_lv_mem.mpr ⟨.int x, hq, (fun z => by cases z), rfl⟩
  obtain ⟨j, hjm⟩ := List.getElem?_of_mem hm
  exact lv_iinc (k := j) C.1.1 C.1.2.1 hd hl hjm hv hk rfl (fun ls1 hl1 => h H locs ls1 hP hD hS (gx_lv_set hlo (by omega) hl1))
theorem lt_tabOut (C : lw_C X p s m meth c b L xs) {x : Int32} {dflt lo1 hi : Int} {offs : Array Int} {len : Nat} (tgt : Nat) (hd : decode code pc = .ok (.tableswitch dflt lo1 hi offs, len)) (hx : x.toInt < lo1 ∨ hi < x.toInt) (ht : (pc : Int) + dflt = (tgt : Int)) (h : lw_T X p e s m below meth c b tgt lo st M) : lw_T X p e s m below meth c b pc lo (.int x :: st) M :=
  fun H locs ls hP hD hS hl => lv_tableOut C.1.1 C.1.2.1 hd hx ht (h H locs ls hP hD hS hl)
theorem lt_tabIn (C : lw_C X p s m meth c b L xs) {x : Int32} {dflt lo1 hi off : Int} {offs : Array Int} {len : Nat} (tgt : Nat) (hd : decode code pc = .ok (.tableswitch dflt lo1 hi offs, len)) (h1 : ¬ x.toInt < lo1) (h2 : ¬ hi < x.toInt) (ho : offs[(x.toInt - lo1).toNat]? = some off) (ht : (pc : Int) + off = (tgt : Int)) (h : lw_T X p e s m below meth c b tgt lo st M) : lw_T X p e s m below meth c b pc lo (.int x :: st) M :=
  fun H locs ls hP hD hS hl => lv_tableIn C.1.1 C.1.2.1 hd h1 h2 ho ht (h H locs ls hP hD hS hl)
theorem lw_inT : ∀ w ∈ gx_TBL, w ∈ lw_tbl := fun _ h => (List.mem_filter.mp h).1
theorem lw_goodIn {ws : List Cond} (h : ∀ w ∈ ws, w ∈ gx_TBL) : GoodIn lw_tbl ws := fun w hw => ⟨lw_inT w (h w hw), good_of_word (gx_good w (h w hw))⟩
/-- a call of one of the two objects -/
theorem lt_call (C : lw_C X p s m meth c b L xs) {ν idx p0 : Nat} {as : List Value} {P : Option Value → gx_M → Prop} {sl : List (Option Nat)} (hd : decode code pc = .ok (.invokevirtual idx, 3)) (hν : ν < 105) (hcl : gx_at p0 = some (.inr (.inl (gx_on ν, sl)))) (h5 : gx_on ν < 5) (hlenA : as.length + 1 ≤ gx_mL ν)
    (hcat : ∀ v ∈ (Value.ref p0 :: as), v.category = 1) (hst : ∀ v ∈ st, v.category = 1) (hs8 : st.length ≤ 8)
    (q2 : Cond.methodLink R_law idx (gx_y ν) ∈ gx_TBL) (q3 : Cond.initialized (gx_y ν).cls ∈ gx_TBL) (q10 : Cond.instanceMethod (gx_y ν) ∈ gx_TBL) (q11 : Cond.selects (gx_y ν).cls (gx_y ν) (gx_y ν) ∈ gx_TBL)
    (q6 : (gx_y ν).cls ≠ "java/lang/invoke/MethodHandle" ∧ (gx_y ν).cls ≠ "java/lang/invoke/VarHandle" ∧ (parseMethodDescriptor (gx_y ν).desc).map (fun d => d.parameters.length) = some as.length)
    (hR : (gx_rm ν).frames + 1 ≤ room_1.frames ∧ 8 + (gx_mL ν + 11) + (gx_rm ν).locals ≤ room_1.locals) (h : gx_C X ν (.ref p0 :: as) M P)
    (kk : ∀ (v : Option Value) (u : gx_M), P v u → lw_T X p e s m below meth c b (pc + 3) lo (v.toList ++ st) u) : lw_T X p e s m below meth c b pc lo (as.reverse ++ .ref p0 :: st) M := by
  intro H locs ls hP hD hS hl
  obtain ⟨⟨hx, hb, hr, hml, hown, hts, hX, hbl, hlocks, hgv⟩, hK, e58, hL⟩ := C
  obtain ⟨C1, T, N, hc⟩ : ∃ C T N, gx_cl[gx_on ν]? = some (C, T, N) := by
    match gx_on ν, h5 with
    | 0, _ => exact ⟨_, _, _, rfl⟩
    | 1, _ => exact ⟨_, _, _, rfl⟩
    | 2, _ => exact ⟨_, _, _, rfl⟩
    | 3, _ => exact ⟨_, _, _, rfl⟩
    | 4, _ => exact ⟨_, _, _, rfl⟩
  have hcn : (gx_y ν).cls = C1 := by
    rw [gx_own ν hν]
    generalize gx_on ν = z at h5 hc
    match z, h5, hc with
    | 0, _, hc => cases hc; rfl
    | 1, _, hc => cases hc; rfl
    | 2, _, hc => cases hc; rfl
    | 3, _, hc => cases hc; rfl
    | 4, _, hc => cases hc; rfl
  have hrun := va_runV (l := X.1) (As := as.map (gx_cv X.2.2.1)) (rest := st.map (gx_cv X.2.2.1)) (b := X.2.2.1 p0) (locs := locs) (cells := 58) (slots := 4630) (below := below) (meth := meth) (e := e) (g := F0 m pc ls ((as.reverse ++ .ref p0 :: st).map (gx_cv X.2.2.1))) ⟨hx, hb, hml, hown, hts⟩ (gx_met (X := X) (ν := ν) (as := .ref p0 :: as) (M := M) hν hcat hlenA h H.size)
    (cwV (R := room_1) (C := C1) as.length hts (lw_goodIn (fun w hw => by
      rcases List.mem_append.mp hw with z | z
      · simp only [List.mem_cons, List.not_mem_nil, or_false] at z
        rcases z with rfl | rfl | rfl | rfl
        · exact q2
        · exact q10
        · rw [← hcn]; exact q11
        · rw [← hcn]; exact q3
      · rcases List.mem_cons.mp z with rfl | z
        · exact gx_kn hν
        · exact z)) rfl rfl rfl ⟨hcn, q6⟩ hR)
    ⟨gx_blind, va_recv hK hP (ci := gx_on ν) (q0 := p0) hc (gx_ws_at hcl), (fun U hU hW => ⟨rfl, by rw [hU], by rw [hU]; exact hP, va_K.moved hW.alike hK, hD.weaken (fun _ _ _ _ => trivial)⟩)⟩ rfl (by rw [List.length_map]) hl.1 (by show ((as.reverse ++ .ref p0 :: st).map _) = _; rw [List.map_append, List.map_reverse, List.map_cons]; rfl) (lv_room (by rw [gx_sum _ _ hst]; exact hs8)) hd ⟨Nat.le_of_ble_eq_true rfl, Nat.le_of_ble_eq_true rfl⟩
  intro T1 hT1 XX
  obtain ⟨v, st₀, t, T', L1, h0, X', hL1, e1, e2, ⟨⟨v1, u, hv, hp, hcat1, hP1, hK1, hD1⟩, hz, hk⟩, stp⟩ := hrun T1 hT1 XX
  have hv : v = v1.map (gx_cv X.2.2.1) := by injection hv
  subst hv
  rw [h0] at hz hk
  have hA1 : ∀ q, va_A (gx_ws X.2.2.1 X.2.2.2 M) H.size q → s.heap.size ≤ q := gx_freeA (A := fun q : Nat => s.heap.size ≤ q) hD hS (fun _ h => h)
  have e3 : (v1.map (gx_cv X.2.2.1)).toList ++ st.map (gx_cv X.2.2.1) = (v1.toList ++ st).map (gx_cv X.2.2.1) := by cases v1 <;> rfl
  obtain ⟨t2, a1, b1⟩ := kk v1 u hp T'.heap (locs ++ L1) ls (by rw [e1]; exact hP1) (hD1.weaken (fun _ _ _ z => hA1 _ z))
    ⟨Nat.le_trans hS.1 (by rw [e1]; exact hz), fun q h1 h2 => by rw [e1, hk q (Nat.lt_of_lt_of_le h1 hS.1) (fun z => h2 (hA1 q z))]; exact hS.2.1 q h1 h2, fun q hq => by
      rcases List.mem_append.mp hq with h | h
      · exact hS.2.2 q h
      · exact hA1 _ (hL1 q h)⟩ hl T' rfl X'
  refine ⟨t2, stp t2 ?_, b1⟩
  rw [← e3] at a1
  exact a1
end LWT
/-- the two objects answer alike, and what held holds -/
def lw_pair (X : gx_X) (Inv : gx_M → Prop) (μ ν n : Nat) : Prop := ∀ (M : gx_M) (as : List Int32), as.length = n → Inv M → gx_C X μ (.ref 0 :: as.map Value.int) M (fun r M1 => ∃ z : Int32, r = some (.int z) ∧ gx_C X ν (.ref 34 :: as.map Value.int) M1 (fun r2 M2 => r2 = some (.int z) ∧ Inv M2))
def lw_ps : List (Nat × Nat × Nat) := [(31, 82, 0), (32, 83, 2), (33, 84, 2), (34, 85, 4), (35, 86, 3), (36, 87, 1), (37, 88, 0), (38, 89, 0), (39, 91, 1), (40, 92, 2), (41, 93, 2), (42, 95, 1), (43, 96, 1), (44, 97, 1), (45, 98, 1), (46, 99, 0), (47, 100, 2)]
set_option maxHeartbeats 4000000 in
set_option maxRecDepth 100000 in
theorem lw_case0 {X : gx_X} {p : Program} {e : Env} {s : State} {m : MethodId} {below : List Frame} {meth : Method} {c : Code} {b L : Nat} {xs : Nat → Int32} {Inv : gx_M → Prop} {M : gx_M} {i : Nat} (C : lw_C X p s m meth c b L xs) (hp : lw_pair X Inv 31 82 0) (hI : Inv M) (hi : i + 5 ≤ L) (kk : ∀ M1, Inv M1 → lw_T X p e s m below meth c b 567 [.ref 58, .ref 0, .ref 34, .int (nI i)] [] M1) : lw_T X p e s m below meth c b 116 [.ref 58, .ref 0, .ref 34, .int (nI i)] [] M := by
  have hL := C.2.2.2
  have hc := hp M [] rfl hI
  refine lt_aload C (show decode code 116 = .ok (.aload_n 1, 1) by decide +kernel) rfl ?_
  refine lt_call (ν := 31) (p0 := 0) (as := []) (st := []) C (show decode code 117 = .ok (.invokevirtual 13, 3) by decide +kernel) (by decide) rfl (by decide) (Nat.le_of_ble_eq_true rfl) (by intro v hv; simp only [List.mem_cons, List.not_mem_nil, or_false] at hv; rcases hv with rfl <;> rfl) (by intro v hv; cases hv) (Nat.le_of_ble_eq_true rfl) (show Cond.methodLink R_law 13 (gx_y 31) ∈ gx_TBL from gx_in1 181 rfl rfl) (show Cond.initialized (gx_y 31).cls ∈ gx_TBL from gx_in1 1 rfl rfl) (show Cond.instanceMethod (gx_y 31) ∈ gx_TBL from gx_in1 182 rfl rfl) (show Cond.selects (gx_y 31).cls (gx_y 31) (gx_y 31) ∈ gx_TBL from gx_in1 183 rfl rfl) (show (gx_y 31).cls ≠ "java/lang/invoke/MethodHandle" ∧ (gx_y 31).cls ≠ "java/lang/invoke/VarHandle" ∧ (parseMethodDescriptor (gx_y 31).desc).map (fun d => d.parameters.length) = some 0 by decide +kernel) (by decide +kernel) hc (fun v u hv => ?_)
  obtain ⟨z, rfl, hc2⟩ := hv
  refine lt_aload C (show decode code 120 = .ok (.aload_n 2, 1) by decide +kernel) rfl ?_
  refine lt_call (ν := 82) (p0 := 34) (as := []) (st := [.int z]) C (show decode code 121 = .ok (.invokevirtual 17, 3) by decide +kernel) (by decide) rfl (by decide) (Nat.le_of_ble_eq_true rfl) (by intro v hv; simp only [List.mem_cons, List.not_mem_nil, or_false] at hv; rcases hv with rfl <;> rfl) (by intro v hv; rcases List.mem_singleton.mp hv with rfl; rfl) (Nat.le_of_ble_eq_true rfl) (show Cond.methodLink R_law 17 (gx_y 82) ∈ gx_TBL from gx_in3 59 rfl rfl) (show Cond.initialized (gx_y 82).cls ∈ gx_TBL from gx_in1 5 rfl rfl) (show Cond.instanceMethod (gx_y 82) ∈ gx_TBL from gx_in3 60 rfl rfl) (show Cond.selects (gx_y 82).cls (gx_y 82) (gx_y 82) ∈ gx_TBL from gx_in3 61 rfl rfl) (show (gx_y 82).cls ≠ "java/lang/invoke/MethodHandle" ∧ (gx_y 82).cls ≠ "java/lang/invoke/VarHandle" ∧ (parseMethodDescriptor (gx_y 82).desc).map (fun d => d.parameters.length) = some 0 by decide +kernel) (by decide +kernel) hc2 (fun v u hv => ?_)
  obtain ⟨rfl, hI2⟩ := hv
  exact lt_eq C 567 (show decode code 124 = .ok (.if_icmp .eq 443, 3) by decide +kernel) (by decide) rfl (kk u hI2)
set_option maxHeartbeats 4000000 in
set_option maxRecDepth 100000 in
theorem lw_case1 {X : gx_X} {p : Program} {e : Env} {s : State} {m : MethodId} {below : List Frame} {meth : Method} {c : Code} {b L : Nat} {xs : Nat → Int32} {Inv : gx_M → Prop} {M : gx_M} {i : Nat} (C : lw_C X p s m meth c b L xs) (hp : lw_pair X Inv 32 83 2) (hI : Inv M) (hi : i + 5 ≤ L) (kk : ∀ M1, Inv M1 → lw_T X p e s m below meth c b 567 [.ref 58, .ref 0, .ref 34, .int (nI i)] [] M1) : lw_T X p e s m below meth c b 129 [.ref 58, .ref 0, .ref 34, .int (nI i)] [] M := by
  have hL := C.2.2.2
  have hin1 : vp_in (nI i + 1) L := by rw [show nI i + 1 = nI (i + 1) from nI_add i 1]; exact vp_in_nI (by omega) (by omega)
  have hin2 : vp_in (nI i + 2) L := by rw [show nI i + 2 = nI (i + 2) from nI_add i 2]; exact vp_in_nI (by omega) (by omega)
  have hc := hp M [xs (nI i + 1).toNatClampNeg, xs (nI i + 2).toNatClampNeg] rfl hI
  refine lt_aload C (show decode code 129 = .ok (.aload_n 1, 1) by decide +kernel) rfl ?_
  refine lt_aload C (show decode code 130 = .ok (.aload_n 0, 1) by decide +kernel) rfl ?_
  refine lt_iload C (show decode code 131 = .ok (.iload_n 3, 1) by decide +kernel) rfl ?_
  refine lt_iconst (v := 1) C (show decode code 132 = .ok (.iconst 1, 1) by decide +kernel) (by decide) ?_
  refine lt_iadd C (show decode code 133 = .ok (.iadd, 1) by decide +kernel) ?_
  refine lt_sld C (show decode code 134 = .ok (.iaload, 1) by decide +kernel) hin1 ?_
  refine lt_aload C (show decode code 135 = .ok (.aload_n 0, 1) by decide +kernel) rfl ?_
  refine lt_iload C (show decode code 136 = .ok (.iload_n 3, 1) by decide +kernel) rfl ?_
  refine lt_iconst (v := 2) C (show decode code 137 = .ok (.iconst 2, 1) by decide +kernel) (by decide) ?_
  refine lt_iadd C (show decode code 138 = .ok (.iadd, 1) by decide +kernel) ?_
  refine lt_sld C (show decode code 139 = .ok (.iaload, 1) by decide +kernel) hin2 ?_
  refine lt_call (ν := 32) (p0 := 0) (as := [.int (xs (nI i + 1).toNatClampNeg), .int (xs (nI i + 2).toNatClampNeg)]) (st := []) C (show decode code 140 = .ok (.invokevirtual 18, 3) by decide +kernel) (by decide) rfl (by decide) (Nat.le_of_ble_eq_true rfl) (by intro v hv; simp only [List.mem_cons, List.not_mem_nil, or_false] at hv; rcases hv with rfl | rfl | rfl <;> rfl) (by intro v hv; cases hv) (Nat.le_of_ble_eq_true rfl) (show Cond.methodLink R_law 18 (gx_y 32) ∈ gx_TBL from gx_in1 193 rfl rfl) (show Cond.initialized (gx_y 32).cls ∈ gx_TBL from gx_in1 1 rfl rfl) (show Cond.instanceMethod (gx_y 32) ∈ gx_TBL from gx_in1 194 rfl rfl) (show Cond.selects (gx_y 32).cls (gx_y 32) (gx_y 32) ∈ gx_TBL from gx_in1 195 rfl rfl) (show (gx_y 32).cls ≠ "java/lang/invoke/MethodHandle" ∧ (gx_y 32).cls ≠ "java/lang/invoke/VarHandle" ∧ (parseMethodDescriptor (gx_y 32).desc).map (fun d => d.parameters.length) = some 2 by decide +kernel) (by decide +kernel) hc (fun v u hv => ?_)
  obtain ⟨z, rfl, hc2⟩ := hv
  refine lt_aload C (show decode code 143 = .ok (.aload_n 2, 1) by decide +kernel) rfl ?_
  refine lt_aload C (show decode code 144 = .ok (.aload_n 0, 1) by decide +kernel) rfl ?_
  refine lt_iload C (show decode code 145 = .ok (.iload_n 3, 1) by decide +kernel) rfl ?_
  refine lt_iconst (v := 1) C (show decode code 146 = .ok (.iconst 1, 1) by decide +kernel) (by decide) ?_
  refine lt_iadd C (show decode code 147 = .ok (.iadd, 1) by decide +kernel) ?_
  refine lt_sld C (show decode code 148 = .ok (.iaload, 1) by decide +kernel) hin1 ?_
  refine lt_aload C (show decode code 149 = .ok (.aload_n 0, 1) by decide +kernel) rfl ?_
  refine lt_iload C (show decode code 150 = .ok (.iload_n 3, 1) by decide +kernel) rfl ?_
  refine lt_iconst (v := 2) C (show decode code 151 = .ok (.iconst 2, 1) by decide +kernel) (by decide) ?_
  refine lt_iadd C (show decode code 152 = .ok (.iadd, 1) by decide +kernel) ?_
  refine lt_sld C (show decode code 153 = .ok (.iaload, 1) by decide +kernel) hin2 ?_
  refine lt_call (ν := 83) (p0 := 34) (as := [.int (xs (nI i + 1).toNatClampNeg), .int (xs (nI i + 2).toNatClampNeg)]) (st := [.int z]) C (show decode code 154 = .ok (.invokevirtual 22, 3) by decide +kernel) (by decide) rfl (by decide) (Nat.le_of_ble_eq_true rfl) (by intro v hv; simp only [List.mem_cons, List.not_mem_nil, or_false] at hv; rcases hv with rfl | rfl | rfl <;> rfl) (by intro v hv; rcases List.mem_singleton.mp hv with rfl; rfl) (Nat.le_of_ble_eq_true rfl) (show Cond.methodLink R_law 22 (gx_y 83) ∈ gx_TBL from gx_in3 63 rfl rfl) (show Cond.initialized (gx_y 83).cls ∈ gx_TBL from gx_in1 5 rfl rfl) (show Cond.instanceMethod (gx_y 83) ∈ gx_TBL from gx_in3 64 rfl rfl) (show Cond.selects (gx_y 83).cls (gx_y 83) (gx_y 83) ∈ gx_TBL from gx_in3 65 rfl rfl) (show (gx_y 83).cls ≠ "java/lang/invoke/MethodHandle" ∧ (gx_y 83).cls ≠ "java/lang/invoke/VarHandle" ∧ (parseMethodDescriptor (gx_y 83).desc).map (fun d => d.parameters.length) = some 2 by decide +kernel) (by decide +kernel) hc2 (fun v u hv => ?_)
  obtain ⟨rfl, hI2⟩ := hv
  exact lt_eq C 567 (show decode code 157 = .ok (.if_icmp .eq 410, 3) by decide +kernel) (by decide) rfl (kk u hI2)
set_option maxHeartbeats 4000000 in
set_option maxRecDepth 100000 in
theorem lw_case2 {X : gx_X} {p : Program} {e : Env} {s : State} {m : MethodId} {below : List Frame} {meth : Method} {c : Code} {b L : Nat} {xs : Nat → Int32} {Inv : gx_M → Prop} {M : gx_M} {i : Nat} (C : lw_C X p s m meth c b L xs) (hp : lw_pair X Inv 33 84 2) (hI : Inv M) (hi : i + 5 ≤ L) (kk : ∀ M1, Inv M1 → lw_T X p e s m below meth c b 567 [.ref 58, .ref 0, .ref 34, .int (nI i)] [] M1) : lw_T X p e s m below meth c b 162 [.ref 58, .ref 0, .ref 34, .int (nI i)] [] M := by
  have hL := C.2.2.2
  have hin1 : vp_in (nI i + 1) L := by rw [show nI i + 1 = nI (i + 1) from nI_add i 1]; exact vp_in_nI (by omega) (by omega)
  have hin2 : vp_in (nI i + 2) L := by rw [show nI i + 2 = nI (i + 2) from nI_add i 2]; exact vp_in_nI (by omega) (by omega)
  have hc := hp M [xs (nI i + 1).toNatClampNeg, xs (nI i + 2).toNatClampNeg] rfl hI
  refine lt_aload C (show decode code 162 = .ok (.aload_n 1, 1) by decide +kernel) rfl ?_
  refine lt_aload C (show decode code 163 = .ok (.aload_n 0, 1) by decide +kernel) rfl ?_
  refine lt_iload C (show decode code 164 = .ok (.iload_n 3, 1) by decide +kernel) rfl ?_
  refine lt_iconst (v := 1) C (show decode code 165 = .ok (.iconst 1, 1) by decide +kernel) (by decide) ?_
  refine lt_iadd C (show decode code 166 = .ok (.iadd, 1) by decide +kernel) ?_
  refine lt_sld C (show decode code 167 = .ok (.iaload, 1) by decide +kernel) hin1 ?_
  refine lt_aload C (show decode code 168 = .ok (.aload_n 0, 1) by decide +kernel) rfl ?_
  refine lt_iload C (show decode code 169 = .ok (.iload_n 3, 1) by decide +kernel) rfl ?_
  refine lt_iconst (v := 2) C (show decode code 170 = .ok (.iconst 2, 1) by decide +kernel) (by decide) ?_
  refine lt_iadd C (show decode code 171 = .ok (.iadd, 1) by decide +kernel) ?_
  refine lt_sld C (show decode code 172 = .ok (.iaload, 1) by decide +kernel) hin2 ?_
  refine lt_call (ν := 33) (p0 := 0) (as := [.int (xs (nI i + 1).toNatClampNeg), .int (xs (nI i + 2).toNatClampNeg)]) (st := []) C (show decode code 173 = .ok (.invokevirtual 23, 3) by decide +kernel) (by decide) rfl (by decide) (Nat.le_of_ble_eq_true rfl) (by intro v hv; simp only [List.mem_cons, List.not_mem_nil, or_false] at hv; rcases hv with rfl | rfl | rfl <;> rfl) (by intro v hv; cases hv) (Nat.le_of_ble_eq_true rfl) (show Cond.methodLink R_law 23 (gx_y 33) ∈ gx_TBL from gx_in1 201 rfl rfl) (show Cond.initialized (gx_y 33).cls ∈ gx_TBL from gx_in1 1 rfl rfl) (show Cond.instanceMethod (gx_y 33) ∈ gx_TBL from gx_in1 202 rfl rfl) (show Cond.selects (gx_y 33).cls (gx_y 33) (gx_y 33) ∈ gx_TBL from gx_in1 203 rfl rfl) (show (gx_y 33).cls ≠ "java/lang/invoke/MethodHandle" ∧ (gx_y 33).cls ≠ "java/lang/invoke/VarHandle" ∧ (parseMethodDescriptor (gx_y 33).desc).map (fun d => d.parameters.length) = some 2 by decide +kernel) (by decide +kernel) hc (fun v u hv => ?_)
  obtain ⟨z, rfl, hc2⟩ := hv
  refine lt_aload C (show decode code 176 = .ok (.aload_n 2, 1) by decide +kernel) rfl ?_
  refine lt_aload C (show decode code 177 = .ok (.aload_n 0, 1) by decide +kernel) rfl ?_
  refine lt_iload C (show decode code 178 = .ok (.iload_n 3, 1) by decide +kernel) rfl ?_
  refine lt_iconst (v := 1) C (show decode code 179 = .ok (.iconst 1, 1) by decide +kernel) (by decide) ?_
  refine lt_iadd C (show decode code 180 = .ok (.iadd, 1) by decide +kernel) ?_
  refine lt_sld C (show decode code 181 = .ok (.iaload, 1) by decide +kernel) hin1 ?_
  refine lt_aload C (show decode code 182 = .ok (.aload_n 0, 1) by decide +kernel) rfl ?_
  refine lt_iload C (show decode code 183 = .ok (.iload_n 3, 1) by decide +kernel) rfl ?_
  refine lt_iconst (v := 2) C (show decode code 184 = .ok (.iconst 2, 1) by decide +kernel) (by decide) ?_
  refine lt_iadd C (show decode code 185 = .ok (.iadd, 1) by decide +kernel) ?_
  refine lt_sld C (show decode code 186 = .ok (.iaload, 1) by decide +kernel) hin2 ?_
  refine lt_call (ν := 84) (p0 := 34) (as := [.int (xs (nI i + 1).toNatClampNeg), .int (xs (nI i + 2).toNatClampNeg)]) (st := [.int z]) C (show decode code 187 = .ok (.invokevirtual 26, 3) by decide +kernel) (by decide) rfl (by decide) (Nat.le_of_ble_eq_true rfl) (by intro v hv; simp only [List.mem_cons, List.not_mem_nil, or_false] at hv; rcases hv with rfl | rfl | rfl <;> rfl) (by intro v hv; rcases List.mem_singleton.mp hv with rfl; rfl) (Nat.le_of_ble_eq_true rfl) (show Cond.methodLink R_law 26 (gx_y 84) ∈ gx_TBL from gx_in3 71 rfl rfl) (show Cond.initialized (gx_y 84).cls ∈ gx_TBL from gx_in1 5 rfl rfl) (show Cond.instanceMethod (gx_y 84) ∈ gx_TBL from gx_in3 72 rfl rfl) (show Cond.selects (gx_y 84).cls (gx_y 84) (gx_y 84) ∈ gx_TBL from gx_in3 73 rfl rfl) (show (gx_y 84).cls ≠ "java/lang/invoke/MethodHandle" ∧ (gx_y 84).cls ≠ "java/lang/invoke/VarHandle" ∧ (parseMethodDescriptor (gx_y 84).desc).map (fun d => d.parameters.length) = some 2 by decide +kernel) (by decide +kernel) hc2 (fun v u hv => ?_)
  obtain ⟨rfl, hI2⟩ := hv
  exact lt_eq C 567 (show decode code 190 = .ok (.if_icmp .eq 377, 3) by decide +kernel) (by decide) rfl (kk u hI2)
set_option maxHeartbeats 4000000 in
set_option maxRecDepth 100000 in
theorem lw_case3 {X : gx_X} {p : Program} {e : Env} {s : State} {m : MethodId} {below : List Frame} {meth : Method} {c : Code} {b L : Nat} {xs : Nat → Int32} {Inv : gx_M → Prop} {M : gx_M} {i : Nat} (C : lw_C X p s m meth c b L xs) (hp : lw_pair X Inv 34 85 4) (hI : Inv M) (hi : i + 5 ≤ L) (kk : ∀ M1, Inv M1 → lw_T X p e s m below meth c b 567 [.ref 58, .ref 0, .ref 34, .int (nI i)] [] M1) : lw_T X p e s m below meth c b 195 [.ref 58, .ref 0, .ref 34, .int (nI i)] [] M := by
  have hL := C.2.2.2
  have hin1 : vp_in (nI i + 1) L := by rw [show nI i + 1 = nI (i + 1) from nI_add i 1]; exact vp_in_nI (by omega) (by omega)
  have hin2 : vp_in (nI i + 2) L := by rw [show nI i + 2 = nI (i + 2) from nI_add i 2]; exact vp_in_nI (by omega) (by omega)
  have hin3 : vp_in (nI i + 3) L := by rw [show nI i + 3 = nI (i + 3) from nI_add i 3]; exact vp_in_nI (by omega) (by omega)
  have hin4 : vp_in (nI i + 4) L := by rw [show nI i + 4 = nI (i + 4) from nI_add i 4]; exact vp_in_nI (by omega) (by omega)
  have hc := hp M [xs (nI i + 1).toNatClampNeg, xs (nI i + 2).toNatClampNeg, xs (nI i + 3).toNatClampNeg, xs (nI i + 4).toNatClampNeg] rfl hI
  refine lt_aload C (show decode code 195 = .ok (.aload_n 1, 1) by decide +kernel) rfl ?_
  refine lt_aload C (show decode code 196 = .ok (.aload_n 0, 1) by decide +kernel) rfl ?_
  refine lt_iload C (show decode code 197 = .ok (.iload_n 3, 1) by decide +kernel) rfl ?_
  refine lt_iconst (v := 1) C (show decode code 198 = .ok (.iconst 1, 1) by decide +kernel) (by decide) ?_
  refine lt_iadd C (show decode code 199 = .ok (.iadd, 1) by decide +kernel) ?_
  refine lt_sld C (show decode code 200 = .ok (.iaload, 1) by decide +kernel) hin1 ?_
  refine lt_aload C (show decode code 201 = .ok (.aload_n 0, 1) by decide +kernel) rfl ?_
  refine lt_iload C (show decode code 202 = .ok (.iload_n 3, 1) by decide +kernel) rfl ?_
  refine lt_iconst (v := 2) C (show decode code 203 = .ok (.iconst 2, 1) by decide +kernel) (by decide) ?_
  refine lt_iadd C (show decode code 204 = .ok (.iadd, 1) by decide +kernel) ?_
  refine lt_sld C (show decode code 205 = .ok (.iaload, 1) by decide +kernel) hin2 ?_
  refine lt_aload C (show decode code 206 = .ok (.aload_n 0, 1) by decide +kernel) rfl ?_
  refine lt_iload C (show decode code 207 = .ok (.iload_n 3, 1) by decide +kernel) rfl ?_
  refine lt_iconst (v := 3) C (show decode code 208 = .ok (.iconst 3, 1) by decide +kernel) (by decide) ?_
  refine lt_iadd C (show decode code 209 = .ok (.iadd, 1) by decide +kernel) ?_
  refine lt_sld C (show decode code 210 = .ok (.iaload, 1) by decide +kernel) hin3 ?_
  refine lt_aload C (show decode code 211 = .ok (.aload_n 0, 1) by decide +kernel) rfl ?_
  refine lt_iload C (show decode code 212 = .ok (.iload_n 3, 1) by decide +kernel) rfl ?_
  refine lt_iconst (v := 4) C (show decode code 213 = .ok (.iconst 4, 1) by decide +kernel) (by decide) ?_
  refine lt_iadd C (show decode code 214 = .ok (.iadd, 1) by decide +kernel) ?_
  refine lt_sld C (show decode code 215 = .ok (.iaload, 1) by decide +kernel) hin4 ?_
  refine lt_call (ν := 34) (p0 := 0) (as := [.int (xs (nI i + 1).toNatClampNeg), .int (xs (nI i + 2).toNatClampNeg), .int (xs (nI i + 3).toNatClampNeg), .int (xs (nI i + 4).toNatClampNeg)]) (st := []) C (show decode code 216 = .ok (.invokevirtual 27, 3) by decide +kernel) (by decide) rfl (by decide) (Nat.le_of_ble_eq_true rfl) (by intro v hv; simp only [List.mem_cons, List.not_mem_nil, or_false] at hv; rcases hv with rfl | rfl | rfl | rfl | rfl <;> rfl) (by intro v hv; cases hv) (Nat.le_of_ble_eq_true rfl) (show Cond.methodLink R_law 27 (gx_y 34) ∈ gx_TBL from gx_in1 206 rfl rfl) (show Cond.initialized (gx_y 34).cls ∈ gx_TBL from gx_in1 1 rfl rfl) (show Cond.instanceMethod (gx_y 34) ∈ gx_TBL from gx_in1 207 rfl rfl) (show Cond.selects (gx_y 34).cls (gx_y 34) (gx_y 34) ∈ gx_TBL from gx_in1 208 rfl rfl) (show (gx_y 34).cls ≠ "java/lang/invoke/MethodHandle" ∧ (gx_y 34).cls ≠ "java/lang/invoke/VarHandle" ∧ (parseMethodDescriptor (gx_y 34).desc).map (fun d => d.parameters.length) = some 4 by decide +kernel) (by decide +kernel) hc (fun v u hv => ?_)
  obtain ⟨z, rfl, hc2⟩ := hv
  refine lt_aload C (show decode code 219 = .ok (.aload_n 2, 1) by decide +kernel) rfl ?_
  refine lt_aload C (show decode code 220 = .ok (.aload_n 0, 1) by decide +kernel) rfl ?_
  refine lt_iload C (show decode code 221 = .ok (.iload_n 3, 1) by decide +kernel) rfl ?_
  refine lt_iconst (v := 1) C (show decode code 222 = .ok (.iconst 1, 1) by decide +kernel) (by decide) ?_
  refine lt_iadd C (show decode code 223 = .ok (.iadd, 1) by decide +kernel) ?_
  refine lt_sld C (show decode code 224 = .ok (.iaload, 1) by decide +kernel) hin1 ?_
  refine lt_aload C (show decode code 225 = .ok (.aload_n 0, 1) by decide +kernel) rfl ?_
  refine lt_iload C (show decode code 226 = .ok (.iload_n 3, 1) by decide +kernel) rfl ?_
  refine lt_iconst (v := 2) C (show decode code 227 = .ok (.iconst 2, 1) by decide +kernel) (by decide) ?_
  refine lt_iadd C (show decode code 228 = .ok (.iadd, 1) by decide +kernel) ?_
  refine lt_sld C (show decode code 229 = .ok (.iaload, 1) by decide +kernel) hin2 ?_
  refine lt_aload C (show decode code 230 = .ok (.aload_n 0, 1) by decide +kernel) rfl ?_
  refine lt_iload C (show decode code 231 = .ok (.iload_n 3, 1) by decide +kernel) rfl ?_
  refine lt_iconst (v := 3) C (show decode code 232 = .ok (.iconst 3, 1) by decide +kernel) (by decide) ?_
  refine lt_iadd C (show decode code 233 = .ok (.iadd, 1) by decide +kernel) ?_
  refine lt_sld C (show decode code 234 = .ok (.iaload, 1) by decide +kernel) hin3 ?_
  refine lt_aload C (show decode code 235 = .ok (.aload_n 0, 1) by decide +kernel) rfl ?_
  refine lt_iload C (show decode code 236 = .ok (.iload_n 3, 1) by decide +kernel) rfl ?_
  refine lt_iconst (v := 4) C (show decode code 237 = .ok (.iconst 4, 1) by decide +kernel) (by decide) ?_
  refine lt_iadd C (show decode code 238 = .ok (.iadd, 1) by decide +kernel) ?_
  refine lt_sld C (show decode code 239 = .ok (.iaload, 1) by decide +kernel) hin4 ?_
  refine lt_call (ν := 85) (p0 := 34) (as := [.int (xs (nI i + 1).toNatClampNeg), .int (xs (nI i + 2).toNatClampNeg), .int (xs (nI i + 3).toNatClampNeg), .int (xs (nI i + 4).toNatClampNeg)]) (st := [.int z]) C (show decode code 240 = .ok (.invokevirtual 31, 3) by decide +kernel) (by decide) rfl (by decide) (Nat.le_of_ble_eq_true rfl) (by intro v hv; simp only [List.mem_cons, List.not_mem_nil, or_false] at hv; rcases hv with rfl | rfl | rfl | rfl | rfl <;> rfl) (by intro v hv; rcases List.mem_singleton.mp hv with rfl; rfl) (Nat.le_of_ble_eq_true rfl) (show Cond.methodLink R_law 31 (gx_y 85) ∈ gx_TBL from gx_in3 76 rfl rfl) (show Cond.initialized (gx_y 85).cls ∈ gx_TBL from gx_in1 5 rfl rfl) (show Cond.instanceMethod (gx_y 85) ∈ gx_TBL from gx_in3 77 rfl rfl) (show Cond.selects (gx_y 85).cls (gx_y 85) (gx_y 85) ∈ gx_TBL from gx_in3 78 rfl rfl) (show (gx_y 85).cls ≠ "java/lang/invoke/MethodHandle" ∧ (gx_y 85).cls ≠ "java/lang/invoke/VarHandle" ∧ (parseMethodDescriptor (gx_y 85).desc).map (fun d => d.parameters.length) = some 4 by decide +kernel) (by decide +kernel) hc2 (fun v u hv => ?_)
  obtain ⟨rfl, hI2⟩ := hv
  exact lt_eq C 567 (show decode code 243 = .ok (.if_icmp .eq 324, 3) by decide +kernel) (by decide) rfl (kk u hI2)
set_option maxHeartbeats 4000000 in
set_option maxRecDepth 100000 in
theorem lw_case4 {X : gx_X} {p : Program} {e : Env} {s : State} {m : MethodId} {below : List Frame} {meth : Method} {c : Code} {b L : Nat} {xs : Nat → Int32} {Inv : gx_M → Prop} {M : gx_M} {i : Nat} (C : lw_C X p s m meth c b L xs) (hp : lw_pair X Inv 35 86 3) (hI : Inv M) (hi : i + 5 ≤ L) (kk : ∀ M1, Inv M1 → lw_T X p e s m below meth c b 567 [.ref 58, .ref 0, .ref 34, .int (nI i)] [] M1) : lw_T X p e s m below meth c b 248 [.ref 58, .ref 0, .ref 34, .int (nI i)] [] M := by
  have hL := C.2.2.2
  have hin1 : vp_in (nI i + 1) L := by rw [show nI i + 1 = nI (i + 1) from nI_add i 1]; exact vp_in_nI (by omega) (by omega)
  have hin2 : vp_in (nI i + 2) L := by rw [show nI i + 2 = nI (i + 2) from nI_add i 2]; exact vp_in_nI (by omega) (by omega)
  have hin3 : vp_in (nI i + 3) L := by rw [show nI i + 3 = nI (i + 3) from nI_add i 3]; exact vp_in_nI (by omega) (by omega)
  have hc := hp M [xs (nI i + 1).toNatClampNeg, xs (nI i + 2).toNatClampNeg, xs (nI i + 3).toNatClampNeg] rfl hI
  refine lt_aload C (show decode code 248 = .ok (.aload_n 1, 1) by decide +kernel) rfl ?_
  refine lt_aload C (show decode code 249 = .ok (.aload_n 0, 1) by decide +kernel) rfl ?_
  refine lt_iload C (show decode code 250 = .ok (.iload_n 3, 1) by decide +kernel) rfl ?_
  refine lt_iconst (v := 1) C (show decode code 251 = .ok (.iconst 1, 1) by decide +kernel) (by decide) ?_
  refine lt_iadd C (show decode code 252 = .ok (.iadd, 1) by decide +kernel) ?_
  refine lt_sld C (show decode code 253 = .ok (.iaload, 1) by decide +kernel) hin1 ?_
  refine lt_aload C (show decode code 254 = .ok (.aload_n 0, 1) by decide +kernel) rfl ?_
  refine lt_iload C (show decode code 255 = .ok (.iload_n 3, 1) by decide +kernel) rfl ?_
  refine lt_iconst (v := 2) C (show decode code 256 = .ok (.iconst 2, 1) by decide +kernel) (by decide) ?_
  refine lt_iadd C (show decode code 257 = .ok (.iadd, 1) by decide +kernel) ?_
  refine lt_sld C (show decode code 258 = .ok (.iaload, 1) by decide +kernel) hin2 ?_
  refine lt_aload C (show decode code 259 = .ok (.aload_n 0, 1) by decide +kernel) rfl ?_
  refine lt_iload C (show decode code 260 = .ok (.iload_n 3, 1) by decide +kernel) rfl ?_
  refine lt_iconst (v := 3) C (show decode code 261 = .ok (.iconst 3, 1) by decide +kernel) (by decide) ?_
  refine lt_iadd C (show decode code 262 = .ok (.iadd, 1) by decide +kernel) ?_
  refine lt_sld C (show decode code 263 = .ok (.iaload, 1) by decide +kernel) hin3 ?_
  refine lt_call (ν := 35) (p0 := 0) (as := [.int (xs (nI i + 1).toNatClampNeg), .int (xs (nI i + 2).toNatClampNeg), .int (xs (nI i + 3).toNatClampNeg)]) (st := []) C (show decode code 264 = .ok (.invokevirtual 32, 3) by decide +kernel) (by decide) rfl (by decide) (Nat.le_of_ble_eq_true rfl) (by intro v hv; simp only [List.mem_cons, List.not_mem_nil, or_false] at hv; rcases hv with rfl | rfl | rfl | rfl <;> rfl) (by intro v hv; cases hv) (Nat.le_of_ble_eq_true rfl) (show Cond.methodLink R_law 32 (gx_y 35) ∈ gx_TBL from gx_in1 217 rfl rfl) (show Cond.initialized (gx_y 35).cls ∈ gx_TBL from gx_in1 1 rfl rfl) (show Cond.instanceMethod (gx_y 35) ∈ gx_TBL from gx_in1 218 rfl rfl) (show Cond.selects (gx_y 35).cls (gx_y 35) (gx_y 35) ∈ gx_TBL from gx_in1 219 rfl rfl) (show (gx_y 35).cls ≠ "java/lang/invoke/MethodHandle" ∧ (gx_y 35).cls ≠ "java/lang/invoke/VarHandle" ∧ (parseMethodDescriptor (gx_y 35).desc).map (fun d => d.parameters.length) = some 3 by decide +kernel) (by decide +kernel) hc (fun v u hv => ?_)
  obtain ⟨z, rfl, hc2⟩ := hv
  refine lt_aload C (show decode code 267 = .ok (.aload_n 2, 1) by decide +kernel) rfl ?_
  refine lt_aload C (show decode code 268 = .ok (.aload_n 0, 1) by decide +kernel) rfl ?_
  refine lt_iload C (show decode code 269 = .ok (.iload_n 3, 1) by decide +kernel) rfl ?_
  refine lt_iconst (v := 1) C (show decode code 270 = .ok (.iconst 1, 1) by decide +kernel) (by decide) ?_
  refine lt_iadd C (show decode code 271 = .ok (.iadd, 1) by decide +kernel) ?_
  refine lt_sld C (show decode code 272 = .ok (.iaload, 1) by decide +kernel) hin1 ?_
  refine lt_aload C (show decode code 273 = .ok (.aload_n 0, 1) by decide +kernel) rfl ?_
  refine lt_iload C (show decode code 274 = .ok (.iload_n 3, 1) by decide +kernel) rfl ?_
  refine lt_iconst (v := 2) C (show decode code 275 = .ok (.iconst 2, 1) by decide +kernel) (by decide) ?_
  refine lt_iadd C (show decode code 276 = .ok (.iadd, 1) by decide +kernel) ?_
  refine lt_sld C (show decode code 277 = .ok (.iaload, 1) by decide +kernel) hin2 ?_
  refine lt_aload C (show decode code 278 = .ok (.aload_n 0, 1) by decide +kernel) rfl ?_
  refine lt_iload C (show decode code 279 = .ok (.iload_n 3, 1) by decide +kernel) rfl ?_
  refine lt_iconst (v := 3) C (show decode code 280 = .ok (.iconst 3, 1) by decide +kernel) (by decide) ?_
  refine lt_iadd C (show decode code 281 = .ok (.iadd, 1) by decide +kernel) ?_
  refine lt_sld C (show decode code 282 = .ok (.iaload, 1) by decide +kernel) hin3 ?_
  refine lt_call (ν := 86) (p0 := 34) (as := [.int (xs (nI i + 1).toNatClampNeg), .int (xs (nI i + 2).toNatClampNeg), .int (xs (nI i + 3).toNatClampNeg)]) (st := [.int z]) C (show decode code 283 = .ok (.invokevirtual 36, 3) by decide +kernel) (by decide) rfl (by decide) (Nat.le_of_ble_eq_true rfl) (by intro v hv; simp only [List.mem_cons, List.not_mem_nil, or_false] at hv; rcases hv with rfl | rfl | rfl | rfl <;> rfl) (by intro v hv; rcases List.mem_singleton.mp hv with rfl; rfl) (Nat.le_of_ble_eq_true rfl) (show Cond.methodLink R_law 36 (gx_y 86) ∈ gx_TBL from gx_in3 83 rfl rfl) (show Cond.initialized (gx_y 86).cls ∈ gx_TBL from gx_in1 5 rfl rfl) (show Cond.instanceMethod (gx_y 86) ∈ gx_TBL from gx_in3 84 rfl rfl) (show Cond.selects (gx_y 86).cls (gx_y 86) (gx_y 86) ∈ gx_TBL from gx_in3 85 rfl rfl) (show (gx_y 86).cls ≠ "java/lang/invoke/MethodHandle" ∧ (gx_y 86).cls ≠ "java/lang/invoke/VarHandle" ∧ (parseMethodDescriptor (gx_y 86).desc).map (fun d => d.parameters.length) = some 3 by decide +kernel) (by decide +kernel) hc2 (fun v u hv => ?_)
  obtain ⟨rfl, hI2⟩ := hv
  exact lt_eq C 567 (show decode code 286 = .ok (.if_icmp .eq 281, 3) by decide +kernel) (by decide) rfl (kk u hI2)
set_option maxHeartbeats 4000000 in
set_option maxRecDepth 100000 in
theorem lw_case5 {X : gx_X} {p : Program} {e : Env} {s : State} {m : MethodId} {below : List Frame} {meth : Method} {c : Code} {b L : Nat} {xs : Nat → Int32} {Inv : gx_M → Prop} {M : gx_M} {i : Nat} (C : lw_C X p s m meth c b L xs) (hp : lw_pair X Inv 36 87 1) (hI : Inv M) (hi : i + 5 ≤ L) (kk : ∀ M1, Inv M1 → lw_T X p e s m below meth c b 567 [.ref 58, .ref 0, .ref 34, .int (nI i)] [] M1) : lw_T X p e s m below meth c b 291 [.ref 58, .ref 0, .ref 34, .int (nI i)] [] M := by
  have hL := C.2.2.2
  have hin1 : vp_in (nI i + 1) L := by rw [show nI i + 1 = nI (i + 1) from nI_add i 1]; exact vp_in_nI (by omega) (by omega)
  have hc := hp M [xs (nI i + 1).toNatClampNeg] rfl hI
  refine lt_aload C (show decode code 291 = .ok (.aload_n 1, 1) by decide +kernel) rfl ?_
  refine lt_aload C (show decode code 292 = .ok (.aload_n 0, 1) by decide +kernel) rfl ?_
  refine lt_iload C (show decode code 293 = .ok (.iload_n 3, 1) by decide +kernel) rfl ?_
  refine lt_iconst (v := 1) C (show decode code 294 = .ok (.iconst 1, 1) by decide +kernel) (by decide) ?_
  refine lt_iadd C (show decode code 295 = .ok (.iadd, 1) by decide +kernel) ?_
  refine lt_sld C (show decode code 296 = .ok (.iaload, 1) by decide +kernel) hin1 ?_
  refine lt_call (ν := 36) (p0 := 0) (as := [.int (xs (nI i + 1).toNatClampNeg)]) (st := []) C (show decode code 297 = .ok (.invokevirtual 37, 3) by decide +kernel) (by decide) rfl (by decide) (Nat.le_of_ble_eq_true rfl) (by intro v hv; simp only [List.mem_cons, List.not_mem_nil, or_false] at hv; rcases hv with rfl | rfl <;> rfl) (by intro v hv; cases hv) (Nat.le_of_ble_eq_true rfl) (show Cond.methodLink R_law 37 (gx_y 36) ∈ gx_TBL from gx_in1 225 rfl rfl) (show Cond.initialized (gx_y 36).cls ∈ gx_TBL from gx_in1 1 rfl rfl) (show Cond.instanceMethod (gx_y 36) ∈ gx_TBL from gx_in1 226 rfl rfl) (show Cond.selects (gx_y 36).cls (gx_y 36) (gx_y 36) ∈ gx_TBL from gx_in1 227 rfl rfl) (show (gx_y 36).cls ≠ "java/lang/invoke/MethodHandle" ∧ (gx_y 36).cls ≠ "java/lang/invoke/VarHandle" ∧ (parseMethodDescriptor (gx_y 36).desc).map (fun d => d.parameters.length) = some 1 by decide +kernel) (by decide +kernel) hc (fun v u hv => ?_)
  obtain ⟨z, rfl, hc2⟩ := hv
  refine lt_aload C (show decode code 300 = .ok (.aload_n 2, 1) by decide +kernel) rfl ?_
  refine lt_aload C (show decode code 301 = .ok (.aload_n 0, 1) by decide +kernel) rfl ?_
  refine lt_iload C (show decode code 302 = .ok (.iload_n 3, 1) by decide +kernel) rfl ?_
  refine lt_iconst (v := 1) C (show decode code 303 = .ok (.iconst 1, 1) by decide +kernel) (by decide) ?_
  refine lt_iadd C (show decode code 304 = .ok (.iadd, 1) by decide +kernel) ?_
  refine lt_sld C (show decode code 305 = .ok (.iaload, 1) by decide +kernel) hin1 ?_
  refine lt_call (ν := 87) (p0 := 34) (as := [.int (xs (nI i + 1).toNatClampNeg)]) (st := [.int z]) C (show decode code 306 = .ok (.invokevirtual 41, 3) by decide +kernel) (by decide) rfl (by decide) (Nat.le_of_ble_eq_true rfl) (by intro v hv; simp only [List.mem_cons, List.not_mem_nil, or_false] at hv; rcases hv with rfl | rfl <;> rfl) (by intro v hv; rcases List.mem_singleton.mp hv with rfl; rfl) (Nat.le_of_ble_eq_true rfl) (show Cond.methodLink R_law 41 (gx_y 87) ∈ gx_TBL from gx_in3 91 rfl rfl) (show Cond.initialized (gx_y 87).cls ∈ gx_TBL from gx_in1 5 rfl rfl) (show Cond.instanceMethod (gx_y 87) ∈ gx_TBL from gx_in3 92 rfl rfl) (show Cond.selects (gx_y 87).cls (gx_y 87) (gx_y 87) ∈ gx_TBL from gx_in3 93 rfl rfl) (show (gx_y 87).cls ≠ "java/lang/invoke/MethodHandle" ∧ (gx_y 87).cls ≠ "java/lang/invoke/VarHandle" ∧ (parseMethodDescriptor (gx_y 87).desc).map (fun d => d.parameters.length) = some 1 by decide +kernel) (by decide +kernel) hc2 (fun v u hv => ?_)
  obtain ⟨rfl, hI2⟩ := hv
  exact lt_eq C 567 (show decode code 309 = .ok (.if_icmp .eq 258, 3) by decide +kernel) (by decide) rfl (kk u hI2)
set_option maxHeartbeats 4000000 in
set_option maxRecDepth 100000 in
theorem lw_case6 {X : gx_X} {p : Program} {e : Env} {s : State} {m : MethodId} {below : List Frame} {meth : Method} {c : Code} {b L : Nat} {xs : Nat → Int32} {Inv : gx_M → Prop} {M : gx_M} {i : Nat} (C : lw_C X p s m meth c b L xs) (hp : lw_pair X Inv 37 88 0) (hI : Inv M) (hi : i + 5 ≤ L) (kk : ∀ M1, Inv M1 → lw_T X p e s m below meth c b 567 [.ref 58, .ref 0, .ref 34, .int (nI i)] [] M1) : lw_T X p e s m below meth c b 314 [.ref 58, .ref 0, .ref 34, .int (nI i)] [] M := by
  have hL := C.2.2.2
  have hc := hp M [] rfl hI
  refine lt_aload C (show decode code 314 = .ok (.aload_n 1, 1) by decide +kernel) rfl ?_
  refine lt_call (ν := 37) (p0 := 0) (as := []) (st := []) C (show decode code 315 = .ok (.invokevirtual 42, 3) by decide +kernel) (by decide) rfl (by decide) (Nat.le_of_ble_eq_true rfl) (by intro v hv; simp only [List.mem_cons, List.not_mem_nil, or_false] at hv; rcases hv with rfl <;> rfl) (by intro v hv; cases hv) (Nat.le_of_ble_eq_true rfl) (show Cond.methodLink R_law 42 (gx_y 37) ∈ gx_TBL from gx_in1 233 rfl rfl) (show Cond.initialized (gx_y 37).cls ∈ gx_TBL from gx_in1 1 rfl rfl) (show Cond.instanceMethod (gx_y 37) ∈ gx_TBL from gx_in1 234 rfl rfl) (show Cond.selects (gx_y 37).cls (gx_y 37) (gx_y 37) ∈ gx_TBL from gx_in1 235 rfl rfl) (show (gx_y 37).cls ≠ "java/lang/invoke/MethodHandle" ∧ (gx_y 37).cls ≠ "java/lang/invoke/VarHandle" ∧ (parseMethodDescriptor (gx_y 37).desc).map (fun d => d.parameters.length) = some 0 by decide +kernel) (by decide +kernel) hc (fun v u hv => ?_)
  obtain ⟨z, rfl, hc2⟩ := hv
  refine lt_aload C (show decode code 318 = .ok (.aload_n 2, 1) by decide +kernel) rfl ?_
  refine lt_call (ν := 88) (p0 := 34) (as := []) (st := [.int z]) C (show decode code 319 = .ok (.invokevirtual 45, 3) by decide +kernel) (by decide) rfl (by decide) (Nat.le_of_ble_eq_true rfl) (by intro v hv; simp only [List.mem_cons, List.not_mem_nil, or_false] at hv; rcases hv with rfl <;> rfl) (by intro v hv; rcases List.mem_singleton.mp hv with rfl; rfl) (Nat.le_of_ble_eq_true rfl) (show Cond.methodLink R_law 45 (gx_y 88) ∈ gx_TBL from gx_in3 95 rfl rfl) (show Cond.initialized (gx_y 88).cls ∈ gx_TBL from gx_in1 5 rfl rfl) (show Cond.instanceMethod (gx_y 88) ∈ gx_TBL from gx_in3 96 rfl rfl) (show Cond.selects (gx_y 88).cls (gx_y 88) (gx_y 88) ∈ gx_TBL from gx_in3 97 rfl rfl) (show (gx_y 88).cls ≠ "java/lang/invoke/MethodHandle" ∧ (gx_y 88).cls ≠ "java/lang/invoke/VarHandle" ∧ (parseMethodDescriptor (gx_y 88).desc).map (fun d => d.parameters.length) = some 0 by decide +kernel) (by decide +kernel) hc2 (fun v u hv => ?_)
  obtain ⟨rfl, hI2⟩ := hv
  exact lt_eq C 567 (show decode code 322 = .ok (.if_icmp .eq 245, 3) by decide +kernel) (by decide) rfl (kk u hI2)
set_option maxHeartbeats 4000000 in
set_option maxRecDepth 100000 in
theorem lw_case7 {X : gx_X} {p : Program} {e : Env} {s : State} {m : MethodId} {below : List Frame} {meth : Method} {c : Code} {b L : Nat} {xs : Nat → Int32} {Inv : gx_M → Prop} {M : gx_M} {i : Nat} (C : lw_C X p s m meth c b L xs) (hp : lw_pair X Inv 38 89 0) (hI : Inv M) (hi : i + 5 ≤ L) (kk : ∀ M1, Inv M1 → lw_T X p e s m below meth c b 567 [.ref 58, .ref 0, .ref 34, .int (nI i)] [] M1) : lw_T X p e s m below meth c b 327 [.ref 58, .ref 0, .ref 34, .int (nI i)] [] M := by
  have hL := C.2.2.2
  have hc := hp M [] rfl hI
  refine lt_aload C (show decode code 327 = .ok (.aload_n 1, 1) by decide +kernel) rfl ?_
  refine lt_call (ν := 38) (p0 := 0) (as := []) (st := []) C (show decode code 328 = .ok (.invokevirtual 46, 3) by decide +kernel) (by decide) rfl (by decide) (Nat.le_of_ble_eq_true rfl) (by intro v hv; simp only [List.mem_cons, List.not_mem_nil, or_false] at hv; rcases hv with rfl <;> rfl) (by intro v hv; cases hv) (Nat.le_of_ble_eq_true rfl) (show Cond.methodLink R_law 46 (gx_y 38) ∈ gx_TBL from gx_in2 1 rfl rfl) (show Cond.initialized (gx_y 38).cls ∈ gx_TBL from gx_in1 1 rfl rfl) (show Cond.instanceMethod (gx_y 38) ∈ gx_TBL from gx_in2 2 rfl rfl) (show Cond.selects (gx_y 38).cls (gx_y 38) (gx_y 38) ∈ gx_TBL from gx_in2 3 rfl rfl) (show (gx_y 38).cls ≠ "java/lang/invoke/MethodHandle" ∧ (gx_y 38).cls ≠ "java/lang/invoke/VarHandle" ∧ (parseMethodDescriptor (gx_y 38).desc).map (fun d => d.parameters.length) = some 0 by decide +kernel) (by decide +kernel) hc (fun v u hv => ?_)
  obtain ⟨z, rfl, hc2⟩ := hv
  refine lt_aload C (show decode code 331 = .ok (.aload_n 2, 1) by decide +kernel) rfl ?_
  refine lt_call (ν := 89) (p0 := 34) (as := []) (st := [.int z]) C (show decode code 332 = .ok (.invokevirtual 49, 3) by decide +kernel) (by decide) rfl (by decide) (Nat.le_of_ble_eq_true rfl) (by intro v hv; simp only [List.mem_cons, List.not_mem_nil, or_false] at hv; rcases hv with rfl <;> rfl) (by intro v hv; rcases List.mem_singleton.mp hv with rfl; rfl) (Nat.le_of_ble_eq_true rfl) (show Cond.methodLink R_law 49 (gx_y 89) ∈ gx_TBL from gx_in3 99 rfl rfl) (show Cond.initialized (gx_y 89).cls ∈ gx_TBL from gx_in1 5 rfl rfl) (show Cond.instanceMethod (gx_y 89) ∈ gx_TBL from gx_in3 100 rfl rfl) (show Cond.selects (gx_y 89).cls (gx_y 89) (gx_y 89) ∈ gx_TBL from gx_in3 101 rfl rfl) (show (gx_y 89).cls ≠ "java/lang/invoke/MethodHandle" ∧ (gx_y 89).cls ≠ "java/lang/invoke/VarHandle" ∧ (parseMethodDescriptor (gx_y 89).desc).map (fun d => d.parameters.length) = some 0 by decide +kernel) (by decide +kernel) hc2 (fun v u hv => ?_)
  obtain ⟨rfl, hI2⟩ := hv
  exact lt_eq C 567 (show decode code 335 = .ok (.if_icmp .eq 232, 3) by decide +kernel) (by decide) rfl (kk u hI2)
set_option maxHeartbeats 4000000 in
set_option maxRecDepth 100000 in
theorem lw_case8 {X : gx_X} {p : Program} {e : Env} {s : State} {m : MethodId} {below : List Frame} {meth : Method} {c : Code} {b L : Nat} {xs : Nat → Int32} {Inv : gx_M → Prop} {M : gx_M} {i : Nat} (C : lw_C X p s m meth c b L xs) (hp : lw_pair X Inv 39 91 1) (hI : Inv M) (hi : i + 5 ≤ L) (kk : ∀ M1, Inv M1 → lw_T X p e s m below meth c b 567 [.ref 58, .ref 0, .ref 34, .int (nI i)] [] M1) : lw_T X p e s m below meth c b 340 [.ref 58, .ref 0, .ref 34, .int (nI i)] [] M := by
  have hL := C.2.2.2
  have hin1 : vp_in (nI i + 1) L := by rw [show nI i + 1 = nI (i + 1) from nI_add i 1]; exact vp_in_nI (by omega) (by omega)
  have hc := hp M [xs (nI i + 1).toNatClampNeg] rfl hI
  refine lt_aload C (show decode code 340 = .ok (.aload_n 1, 1) by decide +kernel) rfl ?_
  refine lt_aload C (show decode code 341 = .ok (.aload_n 0, 1) by decide +kernel) rfl ?_
  refine lt_iload C (show decode code 342 = .ok (.iload_n 3, 1) by decide +kernel) rfl ?_
  refine lt_iconst (v := 1) C (show decode code 343 = .ok (.iconst 1, 1) by decide +kernel) (by decide) ?_
  refine lt_iadd C (show decode code 344 = .ok (.iadd, 1) by decide +kernel) ?_
  refine lt_sld C (show decode code 345 = .ok (.iaload, 1) by decide +kernel) hin1 ?_
  refine lt_call (ν := 39) (p0 := 0) (as := [.int (xs (nI i + 1).toNatClampNeg)]) (st := []) C (show decode code 346 = .ok (.invokevirtual 50, 3) by decide +kernel) (by decide) rfl (by decide) (Nat.le_of_ble_eq_true rfl) (by intro v hv; simp only [List.mem_cons, List.not_mem_nil, or_false] at hv; rcases hv with rfl | rfl <;> rfl) (by intro v hv; cases hv) (Nat.le_of_ble_eq_true rfl) (show Cond.methodLink R_law 50 (gx_y 39) ∈ gx_TBL from gx_in2 81 rfl rfl) (show Cond.initialized (gx_y 39).cls ∈ gx_TBL from gx_in1 1 rfl rfl) (show Cond.instanceMethod (gx_y 39) ∈ gx_TBL from gx_in2 82 rfl rfl) (show Cond.selects (gx_y 39).cls (gx_y 39) (gx_y 39) ∈ gx_TBL from gx_in2 83 rfl rfl) (show (gx_y 39).cls ≠ "java/lang/invoke/MethodHandle" ∧ (gx_y 39).cls ≠ "java/lang/invoke/VarHandle" ∧ (parseMethodDescriptor (gx_y 39).desc).map (fun d => d.parameters.length) = some 1 by decide +kernel) (by decide +kernel) hc (fun v u hv => ?_)
  obtain ⟨z, rfl, hc2⟩ := hv
  refine lt_aload C (show decode code 349 = .ok (.aload_n 2, 1) by decide +kernel) rfl ?_
  refine lt_aload C (show decode code 350 = .ok (.aload_n 0, 1) by decide +kernel) rfl ?_
  refine lt_iload C (show decode code 351 = .ok (.iload_n 3, 1) by decide +kernel) rfl ?_
  refine lt_iconst (v := 1) C (show decode code 352 = .ok (.iconst 1, 1) by decide +kernel) (by decide) ?_
  refine lt_iadd C (show decode code 353 = .ok (.iadd, 1) by decide +kernel) ?_
  refine lt_sld C (show decode code 354 = .ok (.iaload, 1) by decide +kernel) hin1 ?_
  refine lt_call (ν := 91) (p0 := 34) (as := [.int (xs (nI i + 1).toNatClampNeg)]) (st := [.int z]) C (show decode code 355 = .ok (.invokevirtual 53, 3) by decide +kernel) (by decide) rfl (by decide) (Nat.le_of_ble_eq_true rfl) (by intro v hv; simp only [List.mem_cons, List.not_mem_nil, or_false] at hv; rcases hv with rfl | rfl <;> rfl) (by intro v hv; rcases List.mem_singleton.mp hv with rfl; rfl) (Nat.le_of_ble_eq_true rfl) (show Cond.methodLink R_law 53 (gx_y 91) ∈ gx_TBL from gx_in3 176 rfl rfl) (show Cond.initialized (gx_y 91).cls ∈ gx_TBL from gx_in1 5 rfl rfl) (show Cond.instanceMethod (gx_y 91) ∈ gx_TBL from gx_in3 177 rfl rfl) (show Cond.selects (gx_y 91).cls (gx_y 91) (gx_y 91) ∈ gx_TBL from gx_in3 178 rfl rfl) (show (gx_y 91).cls ≠ "java/lang/invoke/MethodHandle" ∧ (gx_y 91).cls ≠ "java/lang/invoke/VarHandle" ∧ (parseMethodDescriptor (gx_y 91).desc).map (fun d => d.parameters.length) = some 1 by decide +kernel) (by decide +kernel) hc2 (fun v u hv => ?_)
  obtain ⟨rfl, hI2⟩ := hv
  exact lt_eq C 567 (show decode code 358 = .ok (.if_icmp .eq 209, 3) by decide +kernel) (by decide) rfl (kk u hI2)
set_option maxHeartbeats 4000000 in
set_option maxRecDepth 100000 in
theorem lw_case9 {X : gx_X} {p : Program} {e : Env} {s : State} {m : MethodId} {below : List Frame} {meth : Method} {c : Code} {b L : Nat} {xs : Nat → Int32} {Inv : gx_M → Prop} {M : gx_M} {i : Nat} (C : lw_C X p s m meth c b L xs) (hp : lw_pair X Inv 40 92 2) (hI : Inv M) (hi : i + 5 ≤ L) (kk : ∀ M1, Inv M1 → lw_T X p e s m below meth c b 567 [.ref 58, .ref 0, .ref 34, .int (nI i)] [] M1) : lw_T X p e s m below meth c b 363 [.ref 58, .ref 0, .ref 34, .int (nI i)] [] M := by
  have hL := C.2.2.2
  have hin1 : vp_in (nI i + 1) L := by rw [show nI i + 1 = nI (i + 1) from nI_add i 1]; exact vp_in_nI (by omega) (by omega)
  have hin2 : vp_in (nI i + 2) L := by rw [show nI i + 2 = nI (i + 2) from nI_add i 2]; exact vp_in_nI (by omega) (by omega)
  have hc := hp M [xs (nI i + 1).toNatClampNeg, xs (nI i + 2).toNatClampNeg] rfl hI
  refine lt_aload C (show decode code 363 = .ok (.aload_n 1, 1) by decide +kernel) rfl ?_
  refine lt_aload C (show decode code 364 = .ok (.aload_n 0, 1) by decide +kernel) rfl ?_
  refine lt_iload C (show decode code 365 = .ok (.iload_n 3, 1) by decide +kernel) rfl ?_
  refine lt_iconst (v := 1) C (show decode code 366 = .ok (.iconst 1, 1) by decide +kernel) (by decide) ?_
  refine lt_iadd C (show decode code 367 = .ok (.iadd, 1) by decide +kernel) ?_
  refine lt_sld C (show decode code 368 = .ok (.iaload, 1) by decide +kernel) hin1 ?_
  refine lt_aload C (show decode code 369 = .ok (.aload_n 0, 1) by decide +kernel) rfl ?_
  refine lt_iload C (show decode code 370 = .ok (.iload_n 3, 1) by decide +kernel) rfl ?_
  refine lt_iconst (v := 2) C (show decode code 371 = .ok (.iconst 2, 1) by decide +kernel) (by decide) ?_
  refine lt_iadd C (show decode code 372 = .ok (.iadd, 1) by decide +kernel) ?_
  refine lt_sld C (show decode code 373 = .ok (.iaload, 1) by decide +kernel) hin2 ?_
  refine lt_call (ν := 40) (p0 := 0) (as := [.int (xs (nI i + 1).toNatClampNeg), .int (xs (nI i + 2).toNatClampNeg)]) (st := []) C (show decode code 374 = .ok (.invokevirtual 54, 3) by decide +kernel) (by decide) rfl (by decide) (Nat.le_of_ble_eq_true rfl) (by intro v hv; simp only [List.mem_cons, List.not_mem_nil, or_false] at hv; rcases hv with rfl | rfl | rfl <;> rfl) (by intro v hv; cases hv) (Nat.le_of_ble_eq_true rfl) (show Cond.methodLink R_law 54 (gx_y 40) ∈ gx_TBL from gx_in2 105 rfl rfl) (show Cond.initialized (gx_y 40).cls ∈ gx_TBL from gx_in1 1 rfl rfl) (show Cond.instanceMethod (gx_y 40) ∈ gx_TBL from gx_in2 106 rfl rfl) (show Cond.selects (gx_y 40).cls (gx_y 40) (gx_y 40) ∈ gx_TBL from gx_in2 107 rfl rfl) (show (gx_y 40).cls ≠ "java/lang/invoke/MethodHandle" ∧ (gx_y 40).cls ≠ "java/lang/invoke/VarHandle" ∧ (parseMethodDescriptor (gx_y 40).desc).map (fun d => d.parameters.length) = some 2 by decide +kernel) (by decide +kernel) hc (fun v u hv => ?_)
  obtain ⟨z, rfl, hc2⟩ := hv
  refine lt_aload C (show decode code 377 = .ok (.aload_n 2, 1) by decide +kernel) rfl ?_
  refine lt_aload C (show decode code 378 = .ok (.aload_n 0, 1) by decide +kernel) rfl ?_
  refine lt_iload C (show decode code 379 = .ok (.iload_n 3, 1) by decide +kernel) rfl ?_
  refine lt_iconst (v := 1) C (show decode code 380 = .ok (.iconst 1, 1) by decide +kernel) (by decide) ?_
  refine lt_iadd C (show decode code 381 = .ok (.iadd, 1) by decide +kernel) ?_
  refine lt_sld C (show decode code 382 = .ok (.iaload, 1) by decide +kernel) hin1 ?_
  refine lt_aload C (show decode code 383 = .ok (.aload_n 0, 1) by decide +kernel) rfl ?_
  refine lt_iload C (show decode code 384 = .ok (.iload_n 3, 1) by decide +kernel) rfl ?_
  refine lt_iconst (v := 2) C (show decode code 385 = .ok (.iconst 2, 1) by decide +kernel) (by decide) ?_
  refine lt_iadd C (show decode code 386 = .ok (.iadd, 1) by decide +kernel) ?_
  refine lt_sld C (show decode code 387 = .ok (.iaload, 1) by decide +kernel) hin2 ?_
  refine lt_call (ν := 92) (p0 := 34) (as := [.int (xs (nI i + 1).toNatClampNeg), .int (xs (nI i + 2).toNatClampNeg)]) (st := [.int z]) C (show decode code 388 = .ok (.invokevirtual 57, 3) by decide +kernel) (by decide) rfl (by decide) (Nat.le_of_ble_eq_true rfl) (by intro v hv; simp only [List.mem_cons, List.not_mem_nil, or_false] at hv; rcases hv with rfl | rfl | rfl <;> rfl) (by intro v hv; rcases List.mem_singleton.mp hv with rfl; rfl) (Nat.le_of_ble_eq_true rfl) (show Cond.methodLink R_law 57 (gx_y 92) ∈ gx_TBL from gx_in3 183 rfl rfl) (show Cond.initialized (gx_y 92).cls ∈ gx_TBL from gx_in1 5 rfl rfl) (show Cond.instanceMethod (gx_y 92) ∈ gx_TBL from gx_in3 184 rfl rfl) (show Cond.selects (gx_y 92).cls (gx_y 92) (gx_y 92) ∈ gx_TBL from gx_in3 185 rfl rfl) (show (gx_y 92).cls ≠ "java/lang/invoke/MethodHandle" ∧ (gx_y 92).cls ≠ "java/lang/invoke/VarHandle" ∧ (parseMethodDescriptor (gx_y 92).desc).map (fun d => d.parameters.length) = some 2 by decide +kernel) (by decide +kernel) hc2 (fun v u hv => ?_)
  obtain ⟨rfl, hI2⟩ := hv
  exact lt_eq C 567 (show decode code 391 = .ok (.if_icmp .eq 176, 3) by decide +kernel) (by decide) rfl (kk u hI2)
set_option maxHeartbeats 4000000 in
set_option maxRecDepth 100000 in
theorem lw_case10 {X : gx_X} {p : Program} {e : Env} {s : State} {m : MethodId} {below : List Frame} {meth : Method} {c : Code} {b L : Nat} {xs : Nat → Int32} {Inv : gx_M → Prop} {M : gx_M} {i : Nat} (C : lw_C X p s m meth c b L xs) (hp : lw_pair X Inv 41 93 2) (hI : Inv M) (hi : i + 5 ≤ L) (kk : ∀ M1, Inv M1 → lw_T X p e s m below meth c b 567 [.ref 58, .ref 0, .ref 34, .int (nI i)] [] M1) : lw_T X p e s m below meth c b 396 [.ref 58, .ref 0, .ref 34, .int (nI i)] [] M := by
  have hL := C.2.2.2
  have hin1 : vp_in (nI i + 1) L := by rw [show nI i + 1 = nI (i + 1) from nI_add i 1]; exact vp_in_nI (by omega) (by omega)
  have hin2 : vp_in (nI i + 2) L := by rw [show nI i + 2 = nI (i + 2) from nI_add i 2]; exact vp_in_nI (by omega) (by omega)
  have hc := hp M [xs (nI i + 1).toNatClampNeg, xs (nI i + 2).toNatClampNeg] rfl hI
  refine lt_aload C (show decode code 396 = .ok (.aload_n 1, 1) by decide +kernel) rfl ?_
  refine lt_aload C (show decode code 397 = .ok (.aload_n 0, 1) by decide +kernel) rfl ?_
  refine lt_iload C (show decode code 398 = .ok (.iload_n 3, 1) by decide +kernel) rfl ?_
  refine lt_iconst (v := 1) C (show decode code 399 = .ok (.iconst 1, 1) by decide +kernel) (by decide) ?_
  refine lt_iadd C (show decode code 400 = .ok (.iadd, 1) by decide +kernel) ?_
  refine lt_sld C (show decode code 401 = .ok (.iaload, 1) by decide +kernel) hin1 ?_
  refine lt_aload C (show decode code 402 = .ok (.aload_n 0, 1) by decide +kernel) rfl ?_
  refine lt_iload C (show decode code 403 = .ok (.iload_n 3, 1) by decide +kernel) rfl ?_
  refine lt_iconst (v := 2) C (show decode code 404 = .ok (.iconst 2, 1) by decide +kernel) (by decide) ?_
  refine lt_iadd C (show decode code 405 = .ok (.iadd, 1) by decide +kernel) ?_
  refine lt_sld C (show decode code 406 = .ok (.iaload, 1) by decide +kernel) hin2 ?_
  refine lt_call (ν := 41) (p0 := 0) (as := [.int (xs (nI i + 1).toNatClampNeg), .int (xs (nI i + 2).toNatClampNeg)]) (st := []) C (show decode code 407 = .ok (.invokevirtual 58, 3) by decide +kernel) (by decide) rfl (by decide) (Nat.le_of_ble_eq_true rfl) (by intro v hv; simp only [List.mem_cons, List.not_mem_nil, or_false] at hv; rcases hv with rfl | rfl | rfl <;> rfl) (by intro v hv; cases hv) (Nat.le_of_ble_eq_true rfl) (show Cond.methodLink R_law 58 (gx_y 41) ∈ gx_TBL from gx_in2 109 rfl rfl) (show Cond.initialized (gx_y 41).cls ∈ gx_TBL from gx_in1 1 rfl rfl) (show Cond.instanceMethod (gx_y 41) ∈ gx_TBL from gx_in2 110 rfl rfl) (show Cond.selects (gx_y 41).cls (gx_y 41) (gx_y 41) ∈ gx_TBL from gx_in2 111 rfl rfl) (show (gx_y 41).cls ≠ "java/lang/invoke/MethodHandle" ∧ (gx_y 41).cls ≠ "java/lang/invoke/VarHandle" ∧ (parseMethodDescriptor (gx_y 41).desc).map (fun d => d.parameters.length) = some 2 by decide +kernel) (by decide +kernel) hc (fun v u hv => ?_)
  obtain ⟨z, rfl, hc2⟩ := hv
  refine lt_aload C (show decode code 410 = .ok (.aload_n 2, 1) by decide +kernel) rfl ?_
  refine lt_aload C (show decode code 411 = .ok (.aload_n 0, 1) by decide +kernel) rfl ?_
  refine lt_iload C (show decode code 412 = .ok (.iload_n 3, 1) by decide +kernel) rfl ?_
  refine lt_iconst (v := 1) C (show decode code 413 = .ok (.iconst 1, 1) by decide +kernel) (by decide) ?_
  refine lt_iadd C (show decode code 414 = .ok (.iadd, 1) by decide +kernel) ?_
  refine lt_sld C (show decode code 415 = .ok (.iaload, 1) by decide +kernel) hin1 ?_
  refine lt_aload C (show decode code 416 = .ok (.aload_n 0, 1) by decide +kernel) rfl ?_
  refine lt_iload C (show decode code 417 = .ok (.iload_n 3, 1) by decide +kernel) rfl ?_
  refine lt_iconst (v := 2) C (show decode code 418 = .ok (.iconst 2, 1) by decide +kernel) (by decide) ?_
  refine lt_iadd C (show decode code 419 = .ok (.iadd, 1) by decide +kernel) ?_
  refine lt_sld C (show decode code 420 = .ok (.iaload, 1) by decide +kernel) hin2 ?_
  refine lt_call (ν := 93) (p0 := 34) (as := [.int (xs (nI i + 1).toNatClampNeg), .int (xs (nI i + 2).toNatClampNeg)]) (st := [.int z]) C (show decode code 421 = .ok (.invokevirtual 61, 3) by decide +kernel) (by decide) rfl (by decide) (Nat.le_of_ble_eq_true rfl) (by intro v hv; simp only [List.mem_cons, List.not_mem_nil, or_false] at hv; rcases hv with rfl | rfl | rfl <;> rfl) (by intro v hv; rcases List.mem_singleton.mp hv with rfl; rfl) (Nat.le_of_ble_eq_true rfl) (show Cond.methodLink R_law 61 (gx_y 93) ∈ gx_TBL from gx_in3 187 rfl rfl) (show Cond.initialized (gx_y 93).cls ∈ gx_TBL from gx_in1 5 rfl rfl) (show Cond.instanceMethod (gx_y 93) ∈ gx_TBL from gx_in3 188 rfl rfl) (show Cond.selects (gx_y 93).cls (gx_y 93) (gx_y 93) ∈ gx_TBL from gx_in3 189 rfl rfl) (show (gx_y 93).cls ≠ "java/lang/invoke/MethodHandle" ∧ (gx_y 93).cls ≠ "java/lang/invoke/VarHandle" ∧ (parseMethodDescriptor (gx_y 93).desc).map (fun d => d.parameters.length) = some 2 by decide +kernel) (by decide +kernel) hc2 (fun v u hv => ?_)
  obtain ⟨rfl, hI2⟩ := hv
  exact lt_eq C 567 (show decode code 424 = .ok (.if_icmp .eq 143, 3) by decide +kernel) (by decide) rfl (kk u hI2)
set_option maxHeartbeats 4000000 in
set_option maxRecDepth 100000 in
theorem lw_case11 {X : gx_X} {p : Program} {e : Env} {s : State} {m : MethodId} {below : List Frame} {meth : Method} {c : Code} {b L : Nat} {xs : Nat → Int32} {Inv : gx_M → Prop} {M : gx_M} {i : Nat} (C : lw_C X p s m meth c b L xs) (hp : lw_pair X Inv 42 95 1) (hI : Inv M) (hi : i + 5 ≤ L) (kk : ∀ M1, Inv M1 → lw_T X p e s m below meth c b 567 [.ref 58, .ref 0, .ref 34, .int (nI i)] [] M1) : lw_T X p e s m below meth c b 429 [.ref 58, .ref 0, .ref 34, .int (nI i)] [] M := by
  have hL := C.2.2.2
  have hin1 : vp_in (nI i + 1) L := by rw [show nI i + 1 = nI (i + 1) from nI_add i 1]; exact vp_in_nI (by omega) (by omega)
  have hc := hp M [xs (nI i + 1).toNatClampNeg] rfl hI
  refine lt_aload C (show decode code 429 = .ok (.aload_n 1, 1) by decide +kernel) rfl ?_
  refine lt_aload C (show decode code 430 = .ok (.aload_n 0, 1) by decide +kernel) rfl ?_
  refine lt_iload C (show decode code 431 = .ok (.iload_n 3, 1) by decide +kernel) rfl ?_
  refine lt_iconst (v := 1) C (show decode code 432 = .ok (.iconst 1, 1) by decide +kernel) (by decide) ?_
  refine lt_iadd C (show decode code 433 = .ok (.iadd, 1) by decide +kernel) ?_
  refine lt_sld C (show decode code 434 = .ok (.iaload, 1) by decide +kernel) hin1 ?_
  refine lt_call (ν := 42) (p0 := 0) (as := [.int (xs (nI i + 1).toNatClampNeg)]) (st := []) C (show decode code 435 = .ok (.invokevirtual 62, 3) by decide +kernel) (by decide) rfl (by decide) (Nat.le_of_ble_eq_true rfl) (by intro v hv; simp only [List.mem_cons, List.not_mem_nil, or_false] at hv; rcases hv with rfl | rfl <;> rfl) (by intro v hv; cases hv) (Nat.le_of_ble_eq_true rfl) (show Cond.methodLink R_law 62 (gx_y 42) ∈ gx_TBL from gx_in2 124 rfl rfl) (show Cond.initialized (gx_y 42).cls ∈ gx_TBL from gx_in1 1 rfl rfl) (show Cond.instanceMethod (gx_y 42) ∈ gx_TBL from gx_in2 125 rfl rfl) (show Cond.selects (gx_y 42).cls (gx_y 42) (gx_y 42) ∈ gx_TBL from gx_in2 126 rfl rfl) (show (gx_y 42).cls ≠ "java/lang/invoke/MethodHandle" ∧ (gx_y 42).cls ≠ "java/lang/invoke/VarHandle" ∧ (parseMethodDescriptor (gx_y 42).desc).map (fun d => d.parameters.length) = some 1 by decide +kernel) (by decide +kernel) hc (fun v u hv => ?_)
  obtain ⟨z, rfl, hc2⟩ := hv
  refine lt_aload C (show decode code 438 = .ok (.aload_n 2, 1) by decide +kernel) rfl ?_
  refine lt_aload C (show decode code 439 = .ok (.aload_n 0, 1) by decide +kernel) rfl ?_
  refine lt_iload C (show decode code 440 = .ok (.iload_n 3, 1) by decide +kernel) rfl ?_
  refine lt_iconst (v := 1) C (show decode code 441 = .ok (.iconst 1, 1) by decide +kernel) (by decide) ?_
  refine lt_iadd C (show decode code 442 = .ok (.iadd, 1) by decide +kernel) ?_
  refine lt_sld C (show decode code 443 = .ok (.iaload, 1) by decide +kernel) hin1 ?_
  refine lt_call (ν := 95) (p0 := 34) (as := [.int (xs (nI i + 1).toNatClampNeg)]) (st := [.int z]) C (show decode code 444 = .ok (.invokevirtual 65, 3) by decide +kernel) (by decide) rfl (by decide) (Nat.le_of_ble_eq_true rfl) (by intro v hv; simp only [List.mem_cons, List.not_mem_nil, or_false] at hv; rcases hv with rfl | rfl <;> rfl) (by intro v hv; rcases List.mem_singleton.mp hv with rfl; rfl) (Nat.le_of_ble_eq_true rfl) (show Cond.methodLink R_law 65 (gx_y 95) ∈ gx_TBL from gx_in3 191 rfl rfl) (show Cond.initialized (gx_y 95).cls ∈ gx_TBL from gx_in1 5 rfl rfl) (show Cond.instanceMethod (gx_y 95) ∈ gx_TBL from gx_in3 192 rfl rfl) (show Cond.selects (gx_y 95).cls (gx_y 95) (gx_y 95) ∈ gx_TBL from gx_in3 193 rfl rfl) (show (gx_y 95).cls ≠ "java/lang/invoke/MethodHandle" ∧ (gx_y 95).cls ≠ "java/lang/invoke/VarHandle" ∧ (parseMethodDescriptor (gx_y 95).desc).map (fun d => d.parameters.length) = some 1 by decide +kernel) (by decide +kernel) hc2 (fun v u hv => ?_)
  obtain ⟨rfl, hI2⟩ := hv
  exact lt_eq C 567 (show decode code 447 = .ok (.if_icmp .eq 120, 3) by decide +kernel) (by decide) rfl (kk u hI2)
set_option maxHeartbeats 4000000 in
set_option maxRecDepth 100000 in
theorem lw_case12 {X : gx_X} {p : Program} {e : Env} {s : State} {m : MethodId} {below : List Frame} {meth : Method} {c : Code} {b L : Nat} {xs : Nat → Int32} {Inv : gx_M → Prop} {M : gx_M} {i : Nat} (C : lw_C X p s m meth c b L xs) (hp : lw_pair X Inv 43 96 1) (hI : Inv M) (hi : i + 5 ≤ L) (kk : ∀ M1, Inv M1 → lw_T X p e s m below meth c b 567 [.ref 58, .ref 0, .ref 34, .int (nI i)] [] M1) : lw_T X p e s m below meth c b 452 [.ref 58, .ref 0, .ref 34, .int (nI i)] [] M := by
  have hL := C.2.2.2
  have hin1 : vp_in (nI i + 1) L := by rw [show nI i + 1 = nI (i + 1) from nI_add i 1]; exact vp_in_nI (by omega) (by omega)
  have hc := hp M [xs (nI i + 1).toNatClampNeg] rfl hI
  refine lt_aload C (show decode code 452 = .ok (.aload_n 1, 1) by decide +kernel) rfl ?_
  refine lt_aload C (show decode code 453 = .ok (.aload_n 0, 1) by decide +kernel) rfl ?_
  refine lt_iload C (show decode code 454 = .ok (.iload_n 3, 1) by decide +kernel) rfl ?_
  refine lt_iconst (v := 1) C (show decode code 455 = .ok (.iconst 1, 1) by decide +kernel) (by decide) ?_
  refine lt_iadd C (show decode code 456 = .ok (.iadd, 1) by decide +kernel) ?_
  refine lt_sld C (show decode code 457 = .ok (.iaload, 1) by decide +kernel) hin1 ?_
  refine lt_call (ν := 43) (p0 := 0) (as := [.int (xs (nI i + 1).toNatClampNeg)]) (st := []) C (show decode code 458 = .ok (.invokevirtual 66, 3) by decide +kernel) (by decide) rfl (by decide) (Nat.le_of_ble_eq_true rfl) (by intro v hv; simp only [List.mem_cons, List.not_mem_nil, or_false] at hv; rcases hv with rfl | rfl <;> rfl) (by intro v hv; cases hv) (Nat.le_of_ble_eq_true rfl) (show Cond.methodLink R_law 66 (gx_y 43) ∈ gx_TBL from gx_in2 136 rfl rfl) (show Cond.initialized (gx_y 43).cls ∈ gx_TBL from gx_in1 1 rfl rfl) (show Cond.instanceMethod (gx_y 43) ∈ gx_TBL from gx_in2 137 rfl rfl) (show Cond.selects (gx_y 43).cls (gx_y 43) (gx_y 43) ∈ gx_TBL from gx_in2 138 rfl rfl) (show (gx_y 43).cls ≠ "java/lang/invoke/MethodHandle" ∧ (gx_y 43).cls ≠ "java/lang/invoke/VarHandle" ∧ (parseMethodDescriptor (gx_y 43).desc).map (fun d => d.parameters.length) = some 1 by decide +kernel) (by decide +kernel) hc (fun v u hv => ?_)
  obtain ⟨z, rfl, hc2⟩ := hv
  refine lt_aload C (show decode code 461 = .ok (.aload_n 2, 1) by decide +kernel) rfl ?_
  refine lt_aload C (show decode code 462 = .ok (.aload_n 0, 1) by decide +kernel) rfl ?_
  refine lt_iload C (show decode code 463 = .ok (.iload_n 3, 1) by decide +kernel) rfl ?_
  refine lt_iconst (v := 1) C (show decode code 464 = .ok (.iconst 1, 1) by decide +kernel) (by decide) ?_
  refine lt_iadd C (show decode code 465 = .ok (.iadd, 1) by decide +kernel) ?_
  refine lt_sld C (show decode code 466 = .ok (.iaload, 1) by decide +kernel) hin1 ?_
  refine lt_call (ν := 96) (p0 := 34) (as := [.int (xs (nI i + 1).toNatClampNeg)]) (st := [.int z]) C (show decode code 467 = .ok (.invokevirtual 69, 3) by decide +kernel) (by decide) rfl (by decide) (Nat.le_of_ble_eq_true rfl) (by intro v hv; simp only [List.mem_cons, List.not_mem_nil, or_false] at hv; rcases hv with rfl | rfl <;> rfl) (by intro v hv; rcases List.mem_singleton.mp hv with rfl; rfl) (Nat.le_of_ble_eq_true rfl) (show Cond.methodLink R_law 69 (gx_y 96) ∈ gx_TBL from gx_in3 199 rfl rfl) (show Cond.initialized (gx_y 96).cls ∈ gx_TBL from gx_in1 5 rfl rfl) (show Cond.instanceMethod (gx_y 96) ∈ gx_TBL from gx_in3 200 rfl rfl) (show Cond.selects (gx_y 96).cls (gx_y 96) (gx_y 96) ∈ gx_TBL from gx_in3 201 rfl rfl) (show (gx_y 96).cls ≠ "java/lang/invoke/MethodHandle" ∧ (gx_y 96).cls ≠ "java/lang/invoke/VarHandle" ∧ (parseMethodDescriptor (gx_y 96).desc).map (fun d => d.parameters.length) = some 1 by decide +kernel) (by decide +kernel) hc2 (fun v u hv => ?_)
  obtain ⟨rfl, hI2⟩ := hv
  exact lt_eq C 567 (show decode code 470 = .ok (.if_icmp .eq 97, 3) by decide +kernel) (by decide) rfl (kk u hI2)
set_option maxHeartbeats 4000000 in
set_option maxRecDepth 100000 in
theorem lw_case13 {X : gx_X} {p : Program} {e : Env} {s : State} {m : MethodId} {below : List Frame} {meth : Method} {c : Code} {b L : Nat} {xs : Nat → Int32} {Inv : gx_M → Prop} {M : gx_M} {i : Nat} (C : lw_C X p s m meth c b L xs) (hp : lw_pair X Inv 44 97 1) (hI : Inv M) (hi : i + 5 ≤ L) (kk : ∀ M1, Inv M1 → lw_T X p e s m below meth c b 567 [.ref 58, .ref 0, .ref 34, .int (nI i)] [] M1) : lw_T X p e s m below meth c b 475 [.ref 58, .ref 0, .ref 34, .int (nI i)] [] M := by
  have hL := C.2.2.2
  have hin1 : vp_in (nI i + 1) L := by rw [show nI i + 1 = nI (i + 1) from nI_add i 1]; exact vp_in_nI (by omega) (by omega)
  have hc := hp M [xs (nI i + 1).toNatClampNeg] rfl hI
  refine lt_aload C (show decode code 475 = .ok (.aload_n 1, 1) by decide +kernel) rfl ?_
  refine lt_aload C (show decode code 476 = .ok (.aload_n 0, 1) by decide +kernel) rfl ?_
  refine lt_iload C (show decode code 477 = .ok (.iload_n 3, 1) by decide +kernel) rfl ?_
  refine lt_iconst (v := 1) C (show decode code 478 = .ok (.iconst 1, 1) by decide +kernel) (by decide) ?_
  refine lt_iadd C (show decode code 479 = .ok (.iadd, 1) by decide +kernel) ?_
  refine lt_sld C (show decode code 480 = .ok (.iaload, 1) by decide +kernel) hin1 ?_
  refine lt_call (ν := 44) (p0 := 0) (as := [.int (xs (nI i + 1).toNatClampNeg)]) (st := []) C (show decode code 481 = .ok (.invokevirtual 70, 3) by decide +kernel) (by decide) rfl (by decide) (Nat.le_of_ble_eq_true rfl) (by intro v hv; simp only [List.mem_cons, List.not_mem_nil, or_false] at hv; rcases hv with rfl | rfl <;> rfl) (by intro v hv; cases hv) (Nat.le_of_ble_eq_true rfl) (show Cond.methodLink R_law 70 (gx_y 44) ∈ gx_TBL from gx_in2 140 rfl rfl) (show Cond.initialized (gx_y 44).cls ∈ gx_TBL from gx_in1 1 rfl rfl) (show Cond.instanceMethod (gx_y 44) ∈ gx_TBL from gx_in2 141 rfl rfl) (show Cond.selects (gx_y 44).cls (gx_y 44) (gx_y 44) ∈ gx_TBL from gx_in2 142 rfl rfl) (show (gx_y 44).cls ≠ "java/lang/invoke/MethodHandle" ∧ (gx_y 44).cls ≠ "java/lang/invoke/VarHandle" ∧ (parseMethodDescriptor (gx_y 44).desc).map (fun d => d.parameters.length) = some 1 by decide +kernel) (by decide +kernel) hc (fun v u hv => ?_)
  obtain ⟨z, rfl, hc2⟩ := hv
  refine lt_aload C (show decode code 484 = .ok (.aload_n 2, 1) by decide +kernel) rfl ?_
  refine lt_aload C (show decode code 485 = .ok (.aload_n 0, 1) by decide +kernel) rfl ?_
  refine lt_iload C (show decode code 486 = .ok (.iload_n 3, 1) by decide +kernel) rfl ?_
  refine lt_iconst (v := 1) C (show decode code 487 = .ok (.iconst 1, 1) by decide +kernel) (by decide) ?_
  refine lt_iadd C (show decode code 488 = .ok (.iadd, 1) by decide +kernel) ?_
  refine lt_sld C (show decode code 489 = .ok (.iaload, 1) by decide +kernel) hin1 ?_
  refine lt_call (ν := 97) (p0 := 34) (as := [.int (xs (nI i + 1).toNatClampNeg)]) (st := [.int z]) C (show decode code 490 = .ok (.invokevirtual 73, 3) by decide +kernel) (by decide) rfl (by decide) (Nat.le_of_ble_eq_true rfl) (by intro v hv; simp only [List.mem_cons, List.not_mem_nil, or_false] at hv; rcases hv with rfl | rfl <;> rfl) (by intro v hv; rcases List.mem_singleton.mp hv with rfl; rfl) (Nat.le_of_ble_eq_true rfl) (show Cond.methodLink R_law 73 (gx_y 97) ∈ gx_TBL from gx_in3 203 rfl rfl) (show Cond.initialized (gx_y 97).cls ∈ gx_TBL from gx_in1 5 rfl rfl) (show Cond.instanceMethod (gx_y 97) ∈ gx_TBL from gx_in3 204 rfl rfl) (show Cond.selects (gx_y 97).cls (gx_y 97) (gx_y 97) ∈ gx_TBL from gx_in3 205 rfl rfl) (show (gx_y 97).cls ≠ "java/lang/invoke/MethodHandle" ∧ (gx_y 97).cls ≠ "java/lang/invoke/VarHandle" ∧ (parseMethodDescriptor (gx_y 97).desc).map (fun d => d.parameters.length) = some 1 by decide +kernel) (by decide +kernel) hc2 (fun v u hv => ?_)
  obtain ⟨rfl, hI2⟩ := hv
  exact lt_eq C 567 (show decode code 493 = .ok (.if_icmp .eq 74, 3) by decide +kernel) (by decide) rfl (kk u hI2)
set_option maxHeartbeats 4000000 in
set_option maxRecDepth 100000 in
theorem lw_case14 {X : gx_X} {p : Program} {e : Env} {s : State} {m : MethodId} {below : List Frame} {meth : Method} {c : Code} {b L : Nat} {xs : Nat → Int32} {Inv : gx_M → Prop} {M : gx_M} {i : Nat} (C : lw_C X p s m meth c b L xs) (hp : lw_pair X Inv 45 98 1) (hI : Inv M) (hi : i + 5 ≤ L) (kk : ∀ M1, Inv M1 → lw_T X p e s m below meth c b 567 [.ref 58, .ref 0, .ref 34, .int (nI i)] [] M1) : lw_T X p e s m below meth c b 498 [.ref 58, .ref 0, .ref 34, .int (nI i)] [] M := by
  have hL := C.2.2.2
  have hin1 : vp_in (nI i + 1) L := by rw [show nI i + 1 = nI (i + 1) from nI_add i 1]; exact vp_in_nI (by omega) (by omega)
  have hc := hp M [xs (nI i + 1).toNatClampNeg] rfl hI
  refine lt_aload C (show decode code 498 = .ok (.aload_n 1, 1) by decide +kernel) rfl ?_
  refine lt_aload C (show decode code 499 = .ok (.aload_n 0, 1) by decide +kernel) rfl ?_
  refine lt_iload C (show decode code 500 = .ok (.iload_n 3, 1) by decide +kernel) rfl ?_
  refine lt_iconst (v := 1) C (show decode code 501 = .ok (.iconst 1, 1) by decide +kernel) (by decide) ?_
  refine lt_iadd C (show decode code 502 = .ok (.iadd, 1) by decide +kernel) ?_
  refine lt_sld C (show decode code 503 = .ok (.iaload, 1) by decide +kernel) hin1 ?_
  refine lt_call (ν := 45) (p0 := 0) (as := [.int (xs (nI i + 1).toNatClampNeg)]) (st := []) C (show decode code 504 = .ok (.invokevirtual 74, 3) by decide +kernel) (by decide) rfl (by decide) (Nat.le_of_ble_eq_true rfl) (by intro v hv; simp only [List.mem_cons, List.not_mem_nil, or_false] at hv; rcases hv with rfl | rfl <;> rfl) (by intro v hv; cases hv) (Nat.le_of_ble_eq_true rfl) (show Cond.methodLink R_law 74 (gx_y 45) ∈ gx_TBL from gx_in2 144 rfl rfl) (show Cond.initialized (gx_y 45).cls ∈ gx_TBL from gx_in1 1 rfl rfl) (show Cond.instanceMethod (gx_y 45) ∈ gx_TBL from gx_in2 145 rfl rfl) (show Cond.selects (gx_y 45).cls (gx_y 45) (gx_y 45) ∈ gx_TBL from gx_in2 146 rfl rfl) (show (gx_y 45).cls ≠ "java/lang/invoke/MethodHandle" ∧ (gx_y 45).cls ≠ "java/lang/invoke/VarHandle" ∧ (parseMethodDescriptor (gx_y 45).desc).map (fun d => d.parameters.length) = some 1 by decide +kernel) (by decide +kernel) hc (fun v u hv => ?_)
  obtain ⟨z, rfl, hc2⟩ := hv
  refine lt_aload C (show decode code 507 = .ok (.aload_n 2, 1) by decide +kernel) rfl ?_
  refine lt_aload C (show decode code 508 = .ok (.aload_n 0, 1) by decide +kernel) rfl ?_
  refine lt_iload C (show decode code 509 = .ok (.iload_n 3, 1) by decide +kernel) rfl ?_
  refine lt_iconst (v := 1) C (show decode code 510 = .ok (.iconst 1, 1) by decide +kernel) (by decide) ?_
  refine lt_iadd C (show decode code 511 = .ok (.iadd, 1) by decide +kernel) ?_
  refine lt_sld C (show decode code 512 = .ok (.iaload, 1) by decide +kernel) hin1 ?_
  refine lt_call (ν := 98) (p0 := 34) (as := [.int (xs (nI i + 1).toNatClampNeg)]) (st := [.int z]) C (show decode code 513 = .ok (.invokevirtual 77, 3) by decide +kernel) (by decide) rfl (by decide) (Nat.le_of_ble_eq_true rfl) (by intro v hv; simp only [List.mem_cons, List.not_mem_nil, or_false] at hv; rcases hv with rfl | rfl <;> rfl) (by intro v hv; rcases List.mem_singleton.mp hv with rfl; rfl) (Nat.le_of_ble_eq_true rfl) (show Cond.methodLink R_law 77 (gx_y 98) ∈ gx_TBL from gx_in3 207 rfl rfl) (show Cond.initialized (gx_y 98).cls ∈ gx_TBL from gx_in1 5 rfl rfl) (show Cond.instanceMethod (gx_y 98) ∈ gx_TBL from gx_in3 208 rfl rfl) (show Cond.selects (gx_y 98).cls (gx_y 98) (gx_y 98) ∈ gx_TBL from gx_in3 209 rfl rfl) (show (gx_y 98).cls ≠ "java/lang/invoke/MethodHandle" ∧ (gx_y 98).cls ≠ "java/lang/invoke/VarHandle" ∧ (parseMethodDescriptor (gx_y 98).desc).map (fun d => d.parameters.length) = some 1 by decide +kernel) (by decide +kernel) hc2 (fun v u hv => ?_)
  obtain ⟨rfl, hI2⟩ := hv
  exact lt_eq C 567 (show decode code 516 = .ok (.if_icmp .eq 51, 3) by decide +kernel) (by decide) rfl (kk u hI2)
set_option maxHeartbeats 4000000 in
set_option maxRecDepth 100000 in
theorem lw_case15 {X : gx_X} {p : Program} {e : Env} {s : State} {m : MethodId} {below : List Frame} {meth : Method} {c : Code} {b L : Nat} {xs : Nat → Int32} {Inv : gx_M → Prop} {M : gx_M} {i : Nat} (C : lw_C X p s m meth c b L xs) (hp : lw_pair X Inv 46 99 0) (hI : Inv M) (hi : i + 5 ≤ L) (kk : ∀ M1, Inv M1 → lw_T X p e s m below meth c b 567 [.ref 58, .ref 0, .ref 34, .int (nI i)] [] M1) : lw_T X p e s m below meth c b 521 [.ref 58, .ref 0, .ref 34, .int (nI i)] [] M := by
  have hL := C.2.2.2
  have hc := hp M [] rfl hI
  refine lt_aload C (show decode code 521 = .ok (.aload_n 1, 1) by decide +kernel) rfl ?_
  refine lt_call (ν := 46) (p0 := 0) (as := []) (st := []) C (show decode code 522 = .ok (.invokevirtual 78, 3) by decide +kernel) (by decide) rfl (by decide) (Nat.le_of_ble_eq_true rfl) (by intro v hv; simp only [List.mem_cons, List.not_mem_nil, or_false] at hv; rcases hv with rfl <;> rfl) (by intro v hv; cases hv) (Nat.le_of_ble_eq_true rfl) (show Cond.methodLink R_law 78 (gx_y 46) ∈ gx_TBL from gx_in2 152 rfl rfl) (show Cond.initialized (gx_y 46).cls ∈ gx_TBL from gx_in1 1 rfl rfl) (show Cond.instanceMethod (gx_y 46) ∈ gx_TBL from gx_in2 153 rfl rfl) (show Cond.selects (gx_y 46).cls (gx_y 46) (gx_y 46) ∈ gx_TBL from gx_in2 154 rfl rfl) (show (gx_y 46).cls ≠ "java/lang/invoke/MethodHandle" ∧ (gx_y 46).cls ≠ "java/lang/invoke/VarHandle" ∧ (parseMethodDescriptor (gx_y 46).desc).map (fun d => d.parameters.length) = some 0 by decide +kernel) (by decide +kernel) hc (fun v u hv => ?_)
  obtain ⟨z, rfl, hc2⟩ := hv
  refine lt_aload C (show decode code 525 = .ok (.aload_n 2, 1) by decide +kernel) rfl ?_
  refine lt_call (ν := 99) (p0 := 34) (as := []) (st := [.int z]) C (show decode code 526 = .ok (.invokevirtual 81, 3) by decide +kernel) (by decide) rfl (by decide) (Nat.le_of_ble_eq_true rfl) (by intro v hv; simp only [List.mem_cons, List.not_mem_nil, or_false] at hv; rcases hv with rfl <;> rfl) (by intro v hv; rcases List.mem_singleton.mp hv with rfl; rfl) (Nat.le_of_ble_eq_true rfl) (show Cond.methodLink R_law 81 (gx_y 99) ∈ gx_TBL from gx_in3 211 rfl rfl) (show Cond.initialized (gx_y 99).cls ∈ gx_TBL from gx_in1 5 rfl rfl) (show Cond.instanceMethod (gx_y 99) ∈ gx_TBL from gx_in3 212 rfl rfl) (show Cond.selects (gx_y 99).cls (gx_y 99) (gx_y 99) ∈ gx_TBL from gx_in3 213 rfl rfl) (show (gx_y 99).cls ≠ "java/lang/invoke/MethodHandle" ∧ (gx_y 99).cls ≠ "java/lang/invoke/VarHandle" ∧ (parseMethodDescriptor (gx_y 99).desc).map (fun d => d.parameters.length) = some 0 by decide +kernel) (by decide +kernel) hc2 (fun v u hv => ?_)
  obtain ⟨rfl, hI2⟩ := hv
  exact lt_eq C 567 (show decode code 529 = .ok (.if_icmp .eq 38, 3) by decide +kernel) (by decide) rfl (kk u hI2)
set_option maxHeartbeats 4000000 in
set_option maxRecDepth 100000 in
theorem lw_case16 {X : gx_X} {p : Program} {e : Env} {s : State} {m : MethodId} {below : List Frame} {meth : Method} {c : Code} {b L : Nat} {xs : Nat → Int32} {Inv : gx_M → Prop} {M : gx_M} {i : Nat} (C : lw_C X p s m meth c b L xs) (hp : lw_pair X Inv 47 100 2) (hI : Inv M) (hi : i + 5 ≤ L) (kk : ∀ M1, Inv M1 → lw_T X p e s m below meth c b 567 [.ref 58, .ref 0, .ref 34, .int (nI i)] [] M1) : lw_T X p e s m below meth c b 534 [.ref 58, .ref 0, .ref 34, .int (nI i)] [] M := by
  have hL := C.2.2.2
  have hin1 : vp_in (nI i + 1) L := by rw [show nI i + 1 = nI (i + 1) from nI_add i 1]; exact vp_in_nI (by omega) (by omega)
  have hin2 : vp_in (nI i + 2) L := by rw [show nI i + 2 = nI (i + 2) from nI_add i 2]; exact vp_in_nI (by omega) (by omega)
  have hc := hp M [xs (nI i + 1).toNatClampNeg, xs (nI i + 2).toNatClampNeg] rfl hI
  refine lt_aload C (show decode code 534 = .ok (.aload_n 1, 1) by decide +kernel) rfl ?_
  refine lt_aload C (show decode code 535 = .ok (.aload_n 0, 1) by decide +kernel) rfl ?_
  refine lt_iload C (show decode code 536 = .ok (.iload_n 3, 1) by decide +kernel) rfl ?_
  refine lt_iconst (v := 1) C (show decode code 537 = .ok (.iconst 1, 1) by decide +kernel) (by decide) ?_
  refine lt_iadd C (show decode code 538 = .ok (.iadd, 1) by decide +kernel) ?_
  refine lt_sld C (show decode code 539 = .ok (.iaload, 1) by decide +kernel) hin1 ?_
  refine lt_aload C (show decode code 540 = .ok (.aload_n 0, 1) by decide +kernel) rfl ?_
  refine lt_iload C (show decode code 541 = .ok (.iload_n 3, 1) by decide +kernel) rfl ?_
  refine lt_iconst (v := 2) C (show decode code 542 = .ok (.iconst 2, 1) by decide +kernel) (by decide) ?_
  refine lt_iadd C (show decode code 543 = .ok (.iadd, 1) by decide +kernel) ?_
  refine lt_sld C (show decode code 544 = .ok (.iaload, 1) by decide +kernel) hin2 ?_
  refine lt_call (ν := 47) (p0 := 0) (as := [.int (xs (nI i + 1).toNatClampNeg), .int (xs (nI i + 2).toNatClampNeg)]) (st := []) C (show decode code 545 = .ok (.invokevirtual 82, 3) by decide +kernel) (by decide) rfl (by decide) (Nat.le_of_ble_eq_true rfl) (by intro v hv; simp only [List.mem_cons, List.not_mem_nil, or_false] at hv; rcases hv with rfl | rfl | rfl <;> rfl) (by intro v hv; cases hv) (Nat.le_of_ble_eq_true rfl) (show Cond.methodLink R_law 82 (gx_y 47) ∈ gx_TBL from gx_in2 197 rfl rfl) (show Cond.initialized (gx_y 47).cls ∈ gx_TBL from gx_in1 1 rfl rfl) (show Cond.instanceMethod (gx_y 47) ∈ gx_TBL from gx_in2 198 rfl rfl) (show Cond.selects (gx_y 47).cls (gx_y 47) (gx_y 47) ∈ gx_TBL from gx_in2 199 rfl rfl) (show (gx_y 47).cls ≠ "java/lang/invoke/MethodHandle" ∧ (gx_y 47).cls ≠ "java/lang/invoke/VarHandle" ∧ (parseMethodDescriptor (gx_y 47).desc).map (fun d => d.parameters.length) = some 2 by decide +kernel) (by decide +kernel) hc (fun v u hv => ?_)
  obtain ⟨z, rfl, hc2⟩ := hv
  refine lt_aload C (show decode code 548 = .ok (.aload_n 2, 1) by decide +kernel) rfl ?_
  refine lt_aload C (show decode code 549 = .ok (.aload_n 0, 1) by decide +kernel) rfl ?_
  refine lt_iload C (show decode code 550 = .ok (.iload_n 3, 1) by decide +kernel) rfl ?_
  refine lt_iconst (v := 1) C (show decode code 551 = .ok (.iconst 1, 1) by decide +kernel) (by decide) ?_
  refine lt_iadd C (show decode code 552 = .ok (.iadd, 1) by decide +kernel) ?_
  refine lt_sld C (show decode code 553 = .ok (.iaload, 1) by decide +kernel) hin1 ?_
  refine lt_aload C (show decode code 554 = .ok (.aload_n 0, 1) by decide +kernel) rfl ?_
  refine lt_iload C (show decode code 555 = .ok (.iload_n 3, 1) by decide +kernel) rfl ?_
  refine lt_iconst (v := 2) C (show decode code 556 = .ok (.iconst 2, 1) by decide +kernel) (by decide) ?_
  refine lt_iadd C (show decode code 557 = .ok (.iadd, 1) by decide +kernel) ?_
  refine lt_sld C (show decode code 558 = .ok (.iaload, 1) by decide +kernel) hin2 ?_
  refine lt_call (ν := 100) (p0 := 34) (as := [.int (xs (nI i + 1).toNatClampNeg), .int (xs (nI i + 2).toNatClampNeg)]) (st := [.int z]) C (show decode code 559 = .ok (.invokevirtual 85, 3) by decide +kernel) (by decide) rfl (by decide) (Nat.le_of_ble_eq_true rfl) (by intro v hv; simp only [List.mem_cons, List.not_mem_nil, or_false] at hv; rcases hv with rfl | rfl | rfl <;> rfl) (by intro v hv; rcases List.mem_singleton.mp hv with rfl; rfl) (Nat.le_of_ble_eq_true rfl) (show Cond.methodLink R_law 85 (gx_y 100) ∈ gx_TBL from gx_in3 215 rfl rfl) (show Cond.initialized (gx_y 100).cls ∈ gx_TBL from gx_in1 5 rfl rfl) (show Cond.instanceMethod (gx_y 100) ∈ gx_TBL from gx_in3 216 rfl rfl) (show Cond.selects (gx_y 100).cls (gx_y 100) (gx_y 100) ∈ gx_TBL from gx_in3 217 rfl rfl) (show (gx_y 100).cls ≠ "java/lang/invoke/MethodHandle" ∧ (gx_y 100).cls ≠ "java/lang/invoke/VarHandle" ∧ (parseMethodDescriptor (gx_y 100).desc).map (fun d => d.parameters.length) = some 2 by decide +kernel) (by decide +kernel) hc2 (fun v u hv => ?_)
  obtain ⟨rfl, hI2⟩ := hv
  exact lt_eq C 567 (show decode code 562 = .ok (.if_icmp .eq 5, 3) by decide +kernel) (by decide) rfl (kk u hI2)
set_option maxHeartbeats 4000000 in
set_option maxRecDepth 100000 in
theorem lw_loop {X : gx_X} {p : Program} {e : Env} {s : State} {m : MethodId} {below : List Frame} {meth : Method} {c : Code} {b L : Nat} {xs : Nat → Int32} {Inv : gx_M → Prop} (C : lw_C X p s m meth c b L xs) (hp : ∀ q ∈ lw_ps, lw_pair X Inv q.1 q.2.1 q.2.2) :
    ∀ (n i : Nat) (M : gx_M), i < 2600 → L < i + 5 * n → Inv M → lw_T X p e s m below meth c b 18 [.ref 58, .ref 0, .ref 34, .int (nI i)] [] M := by
  have hL := C.2.2.2
  have h5 : ∀ i : Nat, i < 2600 → (nI L - 5 < nI i ↔ L < i + 5) := by
    intro i hi
    have e1 : (nI L - 5).toInt = (L : Int) - 5 := pk_sub_toInt (a := L) (b := 5) (by omega) (by omega)
    have e2 : (nI i).toInt = (i : Int) := nI_toInt (by omega)
    rw [Int32.lt_iff_toInt_lt, e1, e2]
    omega
  have fin : ∀ (i : Nat) (M : gx_M), lw_T X p e s m below meth c b 573 [.ref 58, .ref 0, .ref 34, .int (nI i)] [] M := by
    intro i M
    refine lt_iconst (v := 1) C (show decode code 573 = .ok (.iconst 1, 1) by decide +kernel) (by decide) ?_
    intro H locs ls hP hD hS hl
    obtain ⟨⟨hx, hb, hr, hml, hown, hts, hX, hbl, hlocks, hgv⟩, hK, e58, hL⟩ := C
    refine va_forget (fun q hq => hS.2.2 q hq) ?_
    refine W.widen (k := 600000) (n := 7302250) (by decide) (by decide) ?_
    exact lw_ret hx hb hr hlocks (show decode code 574 = .ok (.ireturn, 1) by decide +kernel)
  intro n
  induction n with
  | zero =>
    intro i M hi h hI
    refine lt_iload C (show decode code 18 = .ok (.iload_n 3, 1) by decide +kernel) rfl ?_
    refine lt_aload C (show decode code 19 = .ok (.aload_n 0, 1) by decide +kernel) rfl ?_
    refine lt_slen C (show decode code 20 = .ok (.arraylength, 1) by decide +kernel) ?_
    refine lt_iconst (v := 5) C (show decode code 21 = .ok (.iconst 5, 1) by decide +kernel) (by decide) ?_
    refine lt_isub C (show decode code 22 = .ok (.isub, 1) by decide +kernel) ?_
    exact lt_gt C 573 (show decode code 23 = .ok (.if_icmp .gt 550, 3) by decide +kernel) (by decide) (fun _ => fin i M) (fun q => absurd ((h5 i hi).mpr (by omega)) q)
  | succ n ih =>
    intro i M hi h hI
    refine lt_iload C (show decode code 18 = .ok (.iload_n 3, 1) by decide +kernel) rfl ?_
    refine lt_aload C (show decode code 19 = .ok (.aload_n 0, 1) by decide +kernel) rfl ?_
    refine lt_slen C (show decode code 20 = .ok (.arraylength, 1) by decide +kernel) ?_
    refine lt_iconst (v := 5) C (show decode code 21 = .ok (.iconst 5, 1) by decide +kernel) (by decide) ?_
    refine lt_isub C (show decode code 22 = .ok (.isub, 1) by decide +kernel) ?_
    refine lt_gt C 573 (show decode code 23 = .ok (.if_icmp .gt 550, 3) by decide +kernel) (by decide) (fun _ => fin i M) (fun q => ?_)
    have hi5 : i + 5 ≤ L := Nat.not_lt.mp (fun z => q ((h5 i hi).mpr z))
    have kk : ∀ M1, Inv M1 → lw_T X p e s m below meth c b 567 [.ref 58, .ref 0, .ref 34, .int (nI i)] [] M1 := by
      intro M1 hI1
      refine lt_iinc (v := nI (i + 5)) C (show decode code 567 = .ok (.iinc 3 5, 3) by decide +kernel) rfl (by rw [show Int32.ofInt 5 = nI 5 by decide]; exact nI_add i 5) (by decide) rfl (by intro v hv; simp only [List.mem_cons, List.not_mem_nil, or_false] at hv; rcases hv with rfl | rfl | rfl | rfl <;> rfl) ?_
      refine lt_goto C 18 (show decode code 570 = .ok (.goto (-552), 3) by decide +kernel) (by decide) ?_
      exact ih (i + 5) M1 (by omega) (by omega) hI1
    refine lt_aload C (show decode code 26 = .ok (.aload_n 0, 1) by decide +kernel) rfl ?_
    refine lt_iload C (show decode code 27 = .ok (.iload_n 3, 1) by decide +kernel) rfl ?_
    refine lt_sld C (show decode code 28 = .ok (.iaload, 1) by decide +kernel) (vp_in_nI (by omega) (by omega)) ?_
    refine lt_bipush (v := 31) C (show decode code 29 = .ok (.bipush 31, 2) by decide +kernel) (by decide) ?_
    refine lt_iand C (show decode code 31 = .ok (.iand, 1) by decide +kernel) ?_
    obtain ⟨j, hj, ej⟩ := pk_andE (xs (nI i).toNatClampNeg) (m := 31) 5 (by decide)
    rw [ej]
    have et : (nI j).toInt = (j : Int) := nI_toInt (by omega)
    by_cases h17 : j < 17
    · have ho : ∀ (k : Nat) (off : Int), j = k → (#[84, 97, 130, 163, 216, 259, 282, 295, 308, 331, 364, 397, 420, 443, 466, 489, 502] : Array Int)[k]? = some off → (#[84, 97, 130, 163, 216, 259, 282, 295, 308, 331, 364, 397, 420, 443, 466, 489, 502] : Array Int)[((nI j).toInt - 0).toNat]? = some off := by
        intro k off hjk hk
        rw [et, ← hk]
        congr 1
      rcases (show j = 0 ∨ j = 1 ∨ j = 2 ∨ j = 3 ∨ j = 4 ∨ j = 5 ∨ j = 6 ∨ j = 7 ∨ j = 8 ∨ j = 9 ∨ j = 10 ∨ j = 11 ∨ j = 12 ∨ j = 13 ∨ j = 14 ∨ j = 15 ∨ j = 16 by omega) with hj0 | hj0 | hj0 | hj0 | hj0 | hj0 | hj0 | hj0 | hj0 | hj0 | hj0 | hj0 | hj0 | hj0 | hj0 | hj0 | hj0
      · exact lt_tabIn C 116 (show decode code 32 = .ok (.tableswitch 535 0 16 #[84, 97, 130, 163, 216, 259, 282, 295, 308, 331, 364, 397, 420, 443, 466, 489, 502], 84) by decide +kernel) (by rw [et]; omega) (by rw [et]; omega) (ho 0 84 hj0 rfl) (by decide) (lw_case0 C (hp (31, 82, 0) (by decide)) hI hi5 kk)
      · exact lt_tabIn C 129 (show decode code 32 = .ok (.tableswitch 535 0 16 #[84, 97, 130, 163, 216, 259, 282, 295, 308, 331, 364, 397, 420, 443, 466, 489, 502], 84) by decide +kernel) (by rw [et]; omega) (by rw [et]; omega) (ho 1 97 hj0 rfl) (by decide) (lw_case1 C (hp (32, 83, 2) (by decide)) hI hi5 kk)
      · exact lt_tabIn C 162 (show decode code 32 = .ok (.tableswitch 535 0 16 #[84, 97, 130, 163, 216, 259, 282, 295, 308, 331, 364, 397, 420, 443, 466, 489, 502], 84) by decide +kernel) (by rw [et]; omega) (by rw [et]; omega) (ho 2 130 hj0 rfl) (by decide) (lw_case2 C (hp (33, 84, 2) (by decide)) hI hi5 kk)
      · exact lt_tabIn C 195 (show decode code 32 = .ok (.tableswitch 535 0 16 #[84, 97, 130, 163, 216, 259, 282, 295, 308, 331, 364, 397, 420, 443, 466, 489, 502], 84) by decide +kernel) (by rw [et]; omega) (by rw [et]; omega) (ho 3 163 hj0 rfl) (by decide) (lw_case3 C (hp (34, 85, 4) (by decide)) hI hi5 kk)
      · exact lt_tabIn C 248 (show decode code 32 = .ok (.tableswitch 535 0 16 #[84, 97, 130, 163, 216, 259, 282, 295, 308, 331, 364, 397, 420, 443, 466, 489, 502], 84) by decide +kernel) (by rw [et]; omega) (by rw [et]; omega) (ho 4 216 hj0 rfl) (by decide) (lw_case4 C (hp (35, 86, 3) (by decide)) hI hi5 kk)
      · exact lt_tabIn C 291 (show decode code 32 = .ok (.tableswitch 535 0 16 #[84, 97, 130, 163, 216, 259, 282, 295, 308, 331, 364, 397, 420, 443, 466, 489, 502], 84) by decide +kernel) (by rw [et]; omega) (by rw [et]; omega) (ho 5 259 hj0 rfl) (by decide) (lw_case5 C (hp (36, 87, 1) (by decide)) hI hi5 kk)
      · exact lt_tabIn C 314 (show decode code 32 = .ok (.tableswitch 535 0 16 #[84, 97, 130, 163, 216, 259, 282, 295, 308, 331, 364, 397, 420, 443, 466, 489, 502], 84) by decide +kernel) (by rw [et]; omega) (by rw [et]; omega) (ho 6 282 hj0 rfl) (by decide) (lw_case6 C (hp (37, 88, 0) (by decide)) hI hi5 kk)
      · exact lt_tabIn C 327 (show decode code 32 = .ok (.tableswitch 535 0 16 #[84, 97, 130, 163, 216, 259, 282, 295, 308, 331, 364, 397, 420, 443, 466, 489, 502], 84) by decide +kernel) (by rw [et]; omega) (by rw [et]; omega) (ho 7 295 hj0 rfl) (by decide) (lw_case7 C (hp (38, 89, 0) (by decide)) hI hi5 kk)
      · exact lt_tabIn C 340 (show decode code 32 = .ok (.tableswitch 535 0 16 #[84, 97, 130, 163, 216, 259, 282, 295, 308, 331, 364, 397, 420, 443, 466, 489, 502], 84) by decide +kernel) (by rw [et]; omega) (by rw [et]; omega) (ho 8 308 hj0 rfl) (by decide) (lw_case8 C (hp (39, 91, 1) (by decide)) hI hi5 kk)
      · exact lt_tabIn C 363 (show decode code 32 = .ok (.tableswitch 535 0 16 #[84, 97, 130, 163, 216, 259, 282, 295, 308, 331, 364, 397, 420, 443, 466, 489, 502], 84) by decide +kernel) (by rw [et]; omega) (by rw [et]; omega) (ho 9 331 hj0 rfl) (by decide) (lw_case9 C (hp (40, 92, 2) (by decide)) hI hi5 kk)
      · exact lt_tabIn C 396 (show decode code 32 = .ok (.tableswitch 535 0 16 #[84, 97, 130, 163, 216, 259, 282, 295, 308, 331, 364, 397, 420, 443, 466, 489, 502], 84) by decide +kernel) (by rw [et]; omega) (by rw [et]; omega) (ho 10 364 hj0 rfl) (by decide) (lw_case10 C (hp (41, 93, 2) (by decide)) hI hi5 kk)
      · exact lt_tabIn C 429 (show decode code 32 = .ok (.tableswitch 535 0 16 #[84, 97, 130, 163, 216, 259, 282, 295, 308, 331, 364, 397, 420, 443, 466, 489, 502], 84) by decide +kernel) (by rw [et]; omega) (by rw [et]; omega) (ho 11 397 hj0 rfl) (by decide) (lw_case11 C (hp (42, 95, 1) (by decide)) hI hi5 kk)
      · exact lt_tabIn C 452 (show decode code 32 = .ok (.tableswitch 535 0 16 #[84, 97, 130, 163, 216, 259, 282, 295, 308, 331, 364, 397, 420, 443, 466, 489, 502], 84) by decide +kernel) (by rw [et]; omega) (by rw [et]; omega) (ho 12 420 hj0 rfl) (by decide) (lw_case12 C (hp (43, 96, 1) (by decide)) hI hi5 kk)
      · exact lt_tabIn C 475 (show decode code 32 = .ok (.tableswitch 535 0 16 #[84, 97, 130, 163, 216, 259, 282, 295, 308, 331, 364, 397, 420, 443, 466, 489, 502], 84) by decide +kernel) (by rw [et]; omega) (by rw [et]; omega) (ho 13 443 hj0 rfl) (by decide) (lw_case13 C (hp (44, 97, 1) (by decide)) hI hi5 kk)
      · exact lt_tabIn C 498 (show decode code 32 = .ok (.tableswitch 535 0 16 #[84, 97, 130, 163, 216, 259, 282, 295, 308, 331, 364, 397, 420, 443, 466, 489, 502], 84) by decide +kernel) (by rw [et]; omega) (by rw [et]; omega) (ho 14 466 hj0 rfl) (by decide) (lw_case14 C (hp (45, 98, 1) (by decide)) hI hi5 kk)
      · exact lt_tabIn C 521 (show decode code 32 = .ok (.tableswitch 535 0 16 #[84, 97, 130, 163, 216, 259, 282, 295, 308, 331, 364, 397, 420, 443, 466, 489, 502], 84) by decide +kernel) (by rw [et]; omega) (by rw [et]; omega) (ho 15 489 hj0 rfl) (by decide) (lw_case15 C (hp (46, 99, 0) (by decide)) hI hi5 kk)
      · exact lt_tabIn C 534 (show decode code 32 = .ok (.tableswitch 535 0 16 #[84, 97, 130, 163, 216, 259, 282, 295, 308, 331, 364, 397, 420, 443, 466, 489, 502], 84) by decide +kernel) (by rw [et]; omega) (by rw [et]; omega) (ho 16 502 hj0 rfl) (by decide) (lw_case16 C (hp (47, 100, 2) (by decide)) hI hi5 kk)
    · exact lt_tabOut C 567 (show decode code 32 = .ok (.tableswitch 535 0 16 #[84, 97, 130, 163, 216, 259, 282, 295, 308, 331, 364, 397, 420, 443, 466, 489, 502], 84) by decide +kernel) (Or.inr (by rw [et]; omega)) (by decide) (kk M hI)

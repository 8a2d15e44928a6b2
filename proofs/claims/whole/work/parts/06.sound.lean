/-! Soundness of gx_step. -/
theorem gx_ok_len {X : gx_X} {μ pc : Nat} {lo st : List Value} {M : gx_M} {Post : Option Value → gx_M → Prop} (h : lo.length = gx_mL μ → gx_OK X μ pc lo st M Post) : gx_OK X μ pc lo st M Post :=
  fun p e s m args below meth c A H locs ls C hr hlk hK hP hD hA hS hlen hlo hst hl => h hlen p e s m args below meth c A H locs ls C hr hlk hK hP hD hA hS hlen hlo hst hl
theorem gx_OK.mono {X : gx_X} {μ pc : Nat} {lo st : List Value} {M : gx_M} {P P' : Option Value → gx_M → Prop} (h : gx_OK X μ pc lo st M P) (hp : ∀ v M, P v M → P' v M) : gx_OK X μ pc lo st M P' := by
  intro p e s m args below meth c A H locs ls C hr hlk hK hP hD hA hS hlen hlo hst hl T hT XX
  obtain ⟨t, a1, o, b1, b2, ⟨⟨v, u, c1, c2, c3⟩, c4⟩, b4⟩ := h p e s m args below meth c A H locs ls C hr hlk hK hP hD hA hS hlen hlo hst hl T hT XX
  exact ⟨t, a1, o, b1, b2, ⟨⟨v, u, c1, hp v u c2, c3⟩, c4⟩, b4⟩
theorem gx_C.mono {X : gx_X} {μ : Nat} {as : List Value} {M : gx_M} {P P' : Option Value → gx_M → Prop} (h : gx_C X μ as M P) (hp : ∀ v M, P v M → P' v M) : gx_C X μ as M P' := gx_OK.mono h hp
theorem gx_link {μ k ci j : Nat} (h : gx_fl (gx_on μ) k = some (ci, j)) : ∃ C T N, gx_cl[ci]? = some (C, T, N) ∧ j < N ∧ Cond.fieldLink (gx_os (gx_on μ)) k (T j).1 (T j).2.1 (T j).2.2.1 ∈ gx_TBL := gx_fTok _ (gx_lookup h)
theorem gx_wd_in {μ : Nat} {w : Cond} (h : w ∈ gx_TBL) : w ∈ gx_wd μ := List.mem_cons_of_mem _ h
theorem gx_bl_nar {x : Int32} (h : gx_bl x) : narrow .boolean (.int x) = .int x ∧ fits .boolean (.int x) = true ∧ vp_nar .boolean x = x := by
  rcases h with rfl | rfl <;> decide +kernel
theorem gx_good : ∀ w ∈ gx_TBL, goodWord w = true := fun _ h => (List.mem_filter.mp h).2
theorem gx_goodIn {μ : Nat} {ws : List Cond} (h : ∀ w ∈ ws, w ∈ gx_TBL) : GoodIn (gx_wd μ) ws := fun w hw => ⟨gx_wd_in (h w hw), good_of_word (gx_good w (h w hw))⟩
theorem gx_lo_all {μ : Nat} {as : List Value} (has : ∀ v ∈ as, v.category = 1) : ∀ v ∈ as ++ List.replicate (gx_mL μ - as.length) Value.null, v.category = 1 := by
  intro v hv
  rcases List.mem_append.mp hv with h | h
  · exact has v h
  · rw [List.eq_of_mem_replicate h]; rfl
/-- the values of the arguments as the entry frame holds them -/
theorem gx_args_mem (ad : Nat → Nat) : ∀ (as : List Value) (n : Nat), (∀ v ∈ as, v.category = 1) → ∀ (i : Nat) (v : Value), as[i]? = some v → (n + i, gx_cv ad v) ∈ lv_args n (as.map (gx_cv ad))
  | [], n, _, i, v, h => by simp at h
  | a :: as, n, h, i, v, hi => by
    have ha : ¬ (gx_cv ad a).category = 2 := by rw [gx_cv_cat, h a List.mem_cons_self]; decide
    show _ ∈ (n, gx_cv ad a) :: lv_args (if (gx_cv ad a).category = 2 then n + 2 else n + 1) (as.map (gx_cv ad))
    rw [if_neg ha]
    cases i with
    | zero =>
      rw [List.getElem?_cons_zero] at hi
      cases hi
      exact List.mem_cons_self
    | succ i =>
      rw [List.getElem?_cons_succ] at hi
      have e := gx_args_mem ad as (n + 1) (fun v hv => h v (List.mem_cons_of_mem _ hv)) i v hi
      rw [show n + (i + 1) = n + 1 + i by omega]
      exact List.mem_cons_of_mem _ e
theorem gx_sl_len (ad : Nat → Nat) : ∀ (as : List Value), (∀ v ∈ as, v.category = 1) → (lg_sl (as.map (gx_cv ad))).length = as.length
  | [], _ => rfl
  | a :: as, h => by
    have e := gx_sl_len ad as (fun v hv => h v (List.mem_cons_of_mem _ hv))
    have ha : ¬ (gx_cv ad a).category = 2 := by rw [gx_cv_cat, h a List.mem_cons_self]; decide
    unfold lg_sl at e ⊢
    rw [List.map_cons, List.flatMap_cons, if_neg ha, List.length_append, e]
    simp [Nat.add_comm]
theorem gx_sum (ad : Nat → Nat) : ∀ (st : List Value), (∀ v ∈ st, v.category = 1) → ((st.map (gx_cv ad)).map fun v => v.category).sum = st.length
  | [], _ => rfl
  | a :: as, h => by
    have e := gx_sum ad as (fun v hv => h v (List.mem_cons_of_mem _ hv))
    rw [List.map_cons, List.map_cons, List.sum_cons, e, gx_cv_cat, h a List.mem_cons_self, List.length_cons]
    omega
/-- a method's contract -/
theorem gx_met {X : gx_X} {ν : Nat} {as : List Value} {M : gx_M} {P : Option Value → gx_M → Prop} (hν : ν < 105) (has : ∀ v ∈ as, v.category = 1) (hlen : as.length ≤ gx_mL ν) (h : gx_C X ν as M P) (sz : Nat) :
    Met X.1 (gx_y ν) (gx_wd ν) (gx_rm ν) (va_Pc (as.map (gx_cv X.2.2.1)) (fun U => U.heap.size = sz ∧ va_P X.2.1 gx_cl (gx_ws X.2.2.1 X.2.2.2 M) U.heap ∧ va_K X.2.1 gx_cl (gx_tys X.2.2.2) U ∧ va_D (fun _ => True) (gx_ws X.2.2.1 X.2.2.2 M))) (gx_Q X (gx_ret ν) P (va_A (gx_ws X.2.2.1 X.2.2.2 M) sz)) 0 0 (va_A (gx_ws X.2.2.1 X.2.2.2 M) sz) := by
  refine va_MetF (cc := gx_code ν) (maxL := gx_mL ν) (ret := gx_ret ν) (gx_pln ν hν) rfl ?_
  intro p e s m args below meth c s₁ B hml hv
  obtain ⟨rfl, hsz, hP, hK, hD0⟩ := hv
  subst hsz
  have hown : s.vm.findClass (gx_os (gx_on ν)) = some m.cls := by rw [← gx_own ν hν]; exact findClass_of_methodNamed B.named
  have hD := hD0.self (sz := s.heap.size)
  have hl := lv_entry (as.map (gx_cv X.2.2.1)) (n := gx_mL ν) (by rw [gx_sl_len _ _ has]; exact hlen)
  rw [lg_entry_eq]
  refine h p e s m _ below meth c (va_A (gx_ws X.2.2.1 X.2.2.2 M) s.heap.size) s.heap [] _ ⟨B.exec, B.bytes, hml, hown, atoms_spec (ws := gx_wd ν) B.pre⟩ B.returns B.notSynchronized hK hP hD (fun q hq => Or.inr hq) va_S.rf ?_ (gx_lo_all has) (fun v hv => absurd hv List.not_mem_nil) ⟨hl.1, hl.2.1, fun q hq => hl.2.2 q ?_⟩
  · rw [List.length_append, List.length_replicate]; omega
  · obtain ⟨v, h1, h2, h3⟩ := gx_lv_mem.mp hq
    have hi : as[q.1]? = some v := by
      by_cases hlt : q.1 < as.length
      · rwa [List.getElem?_append_left hlt] at h1
      · rw [List.getElem?_append_right (by omega)] at h1
        exact absurd (List.eq_of_mem_replicate (List.mem_of_getElem? h1)) h2
    have := gx_args_mem X.2.2.1 as 0 has q.1 v hi
    rw [Nat.zero_add, ← h3] at this
    exact this
section GXC
variable {p : Program} {e : Env} {R : Room} {s : State} {m : MethodId} {args : Array Value} {below : List Frame} {meth : Method} {c : Code} {H : Heap} {locs : List Loc} {Q : State → Prop} {pc : Nat} {ls : Array Slot} {rest st0 : List Value} {A A1 : Nat → Prop} {a : Array Value}
theorem gx_call {X : gx_X} {ret : Option FieldType} {P : Option Value → gx_M → Prop} (hr : va_Run p X.1 e R s m args below meth c H locs 0 0 0 0 (F0 m pc ls st0) rest (gx_Q X ret P A1 a) A1) (hS : va_S A s.heap H locs) (hA1 : ∀ q, A1 q → A q)
    (kk : ∀ (v : Option Value) (u : gx_M) (H1 : Heap) (locs1 : List Loc), P v u → (gx_shp ret v ∧ ∀ w ∈ v.toList, w.category = 1) → va_P X.2.1 gx_cl (gx_ws X.2.2.1 X.2.2.2 u) H1 → va_D A (gx_ws X.2.2.1 X.2.2.2 u) → va_S A s.heap H1 locs1 → W p X.1 e R s m args below meth c H1 locs1 0 0 Q (F0 m (pc + 3) ls ((v.map (gx_cv X.2.2.1)).toList ++ rest))) :
    W p X.1 e R s m args below meth c H locs 0 0 Q (F0 m pc ls st0) := by
  intro T hT XX
  obtain ⟨v, st₀, t, T', L, h0, X', hL, e1, e2, ⟨⟨v1, u, hv, hp, hcat, hP1, hK1, hD1⟩, hz, hk⟩, stp⟩ := hr T hT XX
  have hv : v = v1.map (gx_cv X.2.2.1) := by injection hv
  subst hv
  rw [h0] at hz hk
  obtain ⟨t2, a1, b1⟩ := kk v1 u T'.heap (locs ++ L) hp hcat (by rw [e1]; exact hP1) (hD1.weaken (fun _ _ _ z => hA1 _ z))
    ⟨Nat.le_trans hS.1 (by rw [e1]; exact hz), fun q h1 h2 => by rw [e1, hk q (Nat.lt_of_lt_of_le h1 hS.1) (fun z => h2 (hA1 q z))]; exact hS.2.1 q h1 h2, fun q hq => by
      rcases List.mem_append.mp hq with h | h
      · exact hS.2.2 q h
      · exact hA1 _ (hL q h)⟩ T' rfl X'
  exact ⟨t2, stp t2 a1, b1⟩
end GXC
theorem gx_blind {X : gx_X} {M : gx_M} {as : List Value} {sz : Nat} : FrameBlind (va_Pc as (fun U => U.heap.size = sz ∧ va_P X.2.1 gx_cl (gx_ws X.2.2.1 X.2.2.2 M) U.heap ∧ va_K X.2.1 gx_cl (gx_tys X.2.2.2) U ∧ va_D (fun _ => True) (gx_ws X.2.2.1 X.2.2.2 M))) :=
  fun a U g mk q => by obtain ⟨q0, q1, qP, qK, qD⟩ := q; exact ⟨q0, q1, qP, va_K.moved (u := U) (U := U.calling g mk a) (Vm.Alike.refl U.vm) qK, qD⟩
theorem gx_freeA {X : gx_X} {M : gx_M} {A : Nat → Prop} {H0 H : Heap} {locs : List Loc} (hD : va_D A (gx_ws X.2.2.1 X.2.2.2 M)) (hS : va_S A H0 H locs) (hA : ∀ q, H0.size ≤ q → A q) : ∀ q, va_A (gx_ws X.2.2.1 X.2.2.2 M) H.size q → A q := by
  intro q h
  rcases h with ⟨k, e, h⟩ | h
  · exact hD.2 k (q, e) h
  · exact hA q (Nat.le_trans hS.1 h)
theorem gx_ml_ok {μ k ν n : Nat} {b : Bool} (h : gx_ml (gx_on μ) k = some (ν, n, b)) : gx_mok ((gx_on μ, k), (ν, n, b)) := gx_mTok _ (gx_lookup h)
theorem gx_take {st : List Value} {n : Nat} (h : n ≤ st.length) : st = ((st.take n).reverse).reverse ++ st.drop n := by rw [List.reverse_reverse, List.take_append_drop]
set_option maxHeartbeats 8000000 in
set_option maxRecDepth 100000 in
theorem gx_sound {G : Nat → List Value → List Value → gx_M → Prop} {X : gx_X} {μ pc : Nat} {b : Bool} {i : Instr} {t : Nat} {lo st : List Value} {M : gx_M} {Post : Option Value → gx_M → Prop} (hi : gx_ins μ pc = some (b, i, t))
    (hG : ∀ (pc : Nat) (lo st : List Value) (M : gx_M), G pc lo st M → gx_OK X μ pc lo st M Post) (h : gx_step G (gx_C X) Post μ pc i t lo st M) : gx_OK X μ pc lo st M Post := by
  obtain ⟨hd, hj, hrk⟩ := gx_dec hi
  cases i
  case aload_n k =>
    dsimp only [gx_step] at h
    split at h
    · rename_i x hq
      intro p e s m args below meth c A H locs ls C hr hlk hK hP hD hA hS hlen hlo hst hl
      refine lv_aload_n C.1 C.2.1 hd rfl (gx_lv_at hl hq (fun z => by cases z)) ?_
      exact hG _ _ _ _ h p e s m args below meth c A H locs ls C hr hlk hK hP hD hA hS hlen hlo (gx_cons_cat hst rfl) hl
    · exact h.elim
  case iload_n k =>
    dsimp only [gx_step] at h
    split at h
    · rename_i x hq
      intro p e s m args below meth c A H locs ls C hr hlk hK hP hD hA hS hlen hlo hst hl
      refine lv_iload_n C.1 C.2.1 hd rfl (gx_lv_at hl hq (fun z => by cases z)) ?_
      exact hG _ _ _ _ h p e s m args below meth c A H locs ls C hr hlk hK hP hD hA hS hlen hlo (gx_cons_cat hst rfl) hl
    · exact h.elim
  case aload k =>
    dsimp only [gx_step] at h
    split at h
    · rename_i x hq
      intro p e s m args below meth c A H locs ls C hr hlk hK hP hD hA hS hlen hlo hst hl
      refine lv_aload C.1 C.2.1 hd (gx_lv_at hl hq (fun z => by cases z)) ?_
      exact hG _ _ _ _ h p e s m args below meth c A H locs ls C hr hlk hK hP hD hA hS hlen hlo (gx_cons_cat hst rfl) hl
    · exact h.elim
  case iload k =>
    dsimp only [gx_step] at h
    split at h
    · rename_i x hq
      intro p e s m args below meth c A H locs ls C hr hlk hK hP hD hA hS hlen hlo hst hl
      refine lv_iload C.1 C.2.1 hd (gx_lv_at hl hq (fun z => by cases z)) ?_
      exact hG _ _ _ _ h p e s m args below meth c A H locs ls C hr hlk hK hP hD hA hS hlen hlo (gx_cons_cat hst rfl) hl
    · exact h.elim
  case astore_n k =>
    dsimp only [gx_step] at h
    split at h
    · rename_i x st1
      obtain ⟨hk, h⟩ := h
      intro p e s m args below meth c A H locs ls C hr hlk hK hP hD hA hS hlen hlo hst hl
      refine lv_astore_n C.1 C.2.1 hd rfl hl (by rw [← hlen]; exact hk) rfl (fun ls1 hl1 => ?_)
      exact hG _ _ _ _ h p e s m args below meth c A H locs ls1 C hr hlk hK hP hD hA hS (by rw [List.length_set]; exact hlen) (gx_set_cat hlo rfl) (fun v hv => hst v (List.mem_cons_of_mem _ hv)) (gx_lv_set hlo hk hl1)
    · exact h.elim
  case istore_n k =>
    dsimp only [gx_step] at h
    split at h
    · rename_i x st1
      obtain ⟨hk, h⟩ := h
      intro p e s m args below meth c A H locs ls C hr hlk hK hP hD hA hS hlen hlo hst hl
      refine lv_istore_n C.1 C.2.1 hd rfl hl (by rw [← hlen]; exact hk) rfl (fun ls1 hl1 => ?_)
      exact hG _ _ _ _ h p e s m args below meth c A H locs ls1 C hr hlk hK hP hD hA hS (by rw [List.length_set]; exact hlen) (gx_set_cat hlo rfl) (fun v hv => hst v (List.mem_cons_of_mem _ hv)) (gx_lv_set hlo hk hl1)
    · exact h.elim
  case istore k =>
    dsimp only [gx_step] at h
    split at h
    · rename_i x st1
      obtain ⟨hk, h⟩ := h
      intro p e s m args below meth c A H locs ls C hr hlk hK hP hD hA hS hlen hlo hst hl
      refine lv_istore C.1 C.2.1 hd hl (by rw [← hlen]; exact hk) rfl (fun ls1 hl1 => ?_)
      exact hG _ _ _ _ h p e s m args below meth c A H locs ls1 C hr hlk hK hP hD hA hS (by rw [List.length_set]; exact hlen) (gx_set_cat hlo rfl) (fun v hv => hst v (List.mem_cons_of_mem _ hv)) (gx_lv_set hlo hk hl1)
    · exact h.elim
  case iconst z =>
    dsimp only [gx_step] at h
    intro p e s m args below meth c A H locs ls C hr hlk hK hP hD hA hS hlen hlo hst hl
    refine lv_iconst C.1 C.2.1 hd rfl ?_
    exact hG _ _ _ _ h p e s m args below meth c A H locs ls C hr hlk hK hP hD hA hS hlen hlo (gx_cons_cat hst rfl) hl
  case bipush z =>
    dsimp only [gx_step] at h
    intro p e s m args below meth c A H locs ls C hr hlk hK hP hD hA hS hlen hlo hst hl
    refine lv_bipush C.1 C.2.1 hd rfl ?_
    exact hG _ _ _ _ h p e s m args below meth c A H locs ls C hr hlk hK hP hD hA hS hlen hlo (gx_cons_cat hst rfl) hl
  case sipush z =>
    dsimp only [gx_step] at h
    intro p e s m args below meth c A H locs ls C hr hlk hK hP hD hA hS hlen hlo hst hl
    refine lv_sipush C.1 C.2.1 hd rfl ?_
    exact hG _ _ _ _ h p e s m args below meth c A H locs ls C hr hlk hK hP hD hA hS hlen hlo (gx_cons_cat hst rfl) hl
  case ldc k =>
    dsimp only [gx_step] at h
    split at h
    · rename_i v hq
      intro p e s m args below meth c A H locs ls C hr hlk hK hP hD hA hS hlen hlo hst hl
      refine lv_ldc C.1 C.2.1 C.2.2.2.1 (C.2.2.2.2 _ (gx_wd_in (gx_cTok _ (gx_lookup hq)))) hd ?_
      exact hG _ _ _ _ h p e s m args below meth c A H locs ls C hr hlk hK hP hD hA hS hlen hlo (gx_cons_cat hst rfl) hl
    · exact h.elim
  case iadd =>
    dsimp only [gx_step] at h
    split at h
    · rename_i y x st1
      intro p e s m args below meth c A H locs ls C hr hlk hK hP hD hA hS hlen hlo hst hl
      refine lv_iadd C.1 C.2.1 hd ?_
      exact hG _ _ _ _ h p e s m args below meth c A H locs ls C hr hlk hK hP hD hA hS hlen hlo (gx_cons_cat (fun v hv => hst v (List.mem_cons_of_mem _ (List.mem_cons_of_mem _ hv))) rfl) hl
    · exact h.elim
  case isub =>
    dsimp only [gx_step] at h
    split at h
    · rename_i y x st1
      intro p e s m args below meth c A H locs ls C hr hlk hK hP hD hA hS hlen hlo hst hl
      refine lv_isub C.1 C.2.1 hd ?_
      exact hG _ _ _ _ h p e s m args below meth c A H locs ls C hr hlk hK hP hD hA hS hlen hlo (gx_cons_cat (fun v hv => hst v (List.mem_cons_of_mem _ (List.mem_cons_of_mem _ hv))) rfl) hl
    · exact h.elim
  case imul =>
    dsimp only [gx_step] at h
    split at h
    · rename_i y x st1
      intro p e s m args below meth c A H locs ls C hr hlk hK hP hD hA hS hlen hlo hst hl
      refine lv_imul C.1 C.2.1 hd ?_
      exact hG _ _ _ _ h p e s m args below meth c A H locs ls C hr hlk hK hP hD hA hS hlen hlo (gx_cons_cat (fun v hv => hst v (List.mem_cons_of_mem _ (List.mem_cons_of_mem _ hv))) rfl) hl
    · exact h.elim
  case iand =>
    dsimp only [gx_step] at h
    split at h
    · rename_i y x st1
      intro p e s m args below meth c A H locs ls C hr hlk hK hP hD hA hS hlen hlo hst hl
      refine lv_iand C.1 C.2.1 hd ?_
      exact hG _ _ _ _ h p e s m args below meth c A H locs ls C hr hlk hK hP hD hA hS hlen hlo (gx_cons_cat (fun v hv => hst v (List.mem_cons_of_mem _ (List.mem_cons_of_mem _ hv))) rfl) hl
    · exact h.elim
  case ixor =>
    dsimp only [gx_step] at h
    split at h
    · rename_i y x st1
      intro p e s m args below meth c A H locs ls C hr hlk hK hP hD hA hS hlen hlo hst hl
      refine lv_ixor C.1 C.2.1 hd ?_
      exact hG _ _ _ _ h p e s m args below meth c A H locs ls C hr hlk hK hP hD hA hS hlen hlo (gx_cons_cat (fun v hv => hst v (List.mem_cons_of_mem _ (List.mem_cons_of_mem _ hv))) rfl) hl
    · exact h.elim
  case ishr =>
    dsimp only [gx_step] at h
    split at h
    · rename_i y x st1
      intro p e s m args below meth c A H locs ls C hr hlk hK hP hD hA hS hlen hlo hst hl
      refine lv_ishr C.1 C.2.1 hd ?_
      exact hG _ _ _ _ h p e s m args below meth c A H locs ls C hr hlk hK hP hD hA hS hlen hlo (gx_cons_cat (fun v hv => hst v (List.mem_cons_of_mem _ (List.mem_cons_of_mem _ hv))) rfl) hl
    · exact h.elim
  case idiv =>
    dsimp only [gx_step] at h
    split at h
    · rename_i y x st1
      obtain ⟨hne, h⟩ := h
      intro p e s m args below meth c A H locs ls C hr hlk hK hP hD hA hS hlen hlo hst hl
      refine lv_idiv C.1 C.2.1 hd hne ?_
      exact hG _ _ _ _ h p e s m args below meth c A H locs ls C hr hlk hK hP hD hA hS hlen hlo (gx_cons_cat (fun v hv => hst v (List.mem_cons_of_mem _ (List.mem_cons_of_mem _ hv))) rfl) hl
    · exact h.elim
  case ineg =>
    dsimp only [gx_step] at h
    split at h
    · rename_i x st1
      intro p e s m args below meth c A H locs ls C hr hlk hK hP hD hA hS hlen hlo hst hl
      refine lv_ineg C.1 C.2.1 hd ?_
      exact hG _ _ _ _ h p e s m args below meth c A H locs ls C hr hlk hK hP hD hA hS hlen hlo (gx_cons_cat (fun v hv => hst v (List.mem_cons_of_mem _ hv)) rfl) hl
    · exact h.elim
  case iinc k z =>
    dsimp only [gx_step] at h
    split at h
    · rename_i x hq
      obtain ⟨hk, h⟩ := h
      intro p e s m args below meth c A H locs ls C hr hlk hK hP hD hA hS hlen hlo hst hl
      have hm : (k, Value.int x) ∈ gx_lv X.2.2.1 lo := gx_lv_mem.mpr ⟨.int x, by rw [List.getD_eq_getElem?_getD, List.getElem?_eq_getElem hk] at hq; rw [List.getElem?_eq_getElem hk]; exact congrArg some hq, (fun z => by cases z), rfl⟩
      obtain ⟨j, hjm⟩ := List.getElem?_of_mem hm
      refine lv_iinc (k := j) C.1 C.2.1 hd hl hjm rfl (by rw [← hlen]; exact hk) rfl (fun ls1 hl1 => ?_)
      exact hG _ _ _ _ h p e s m args below meth c A H locs ls1 C hr hlk hK hP hD hA hS (by rw [List.length_set]; exact hlen) (gx_set_cat hlo rfl) hst (gx_lv_set hlo hk hl1)
    · exact h.elim
  case dup =>
    dsimp only [gx_step] at h
    split at h
    · rename_i v st1
      intro p e s m args below meth c A H locs ls C hr hlk hK hP hD hA hS hlen hlo hst hl
      refine lv_dup C.1 C.2.1 hd (by rw [gx_cv_cat]; exact hst v List.mem_cons_self) ?_
      exact hG _ _ _ _ h p e s m args below meth c A H locs ls C hr hlk hK hP hD hA hS hlen hlo (gx_cons_cat hst (hst v List.mem_cons_self)) hl
    · exact h.elim
  case dup2 =>
    dsimp only [gx_step] at h
    split at h
    · rename_i v u st1
      intro p e s m args below meth c A H locs ls C hr hlk hK hP hD hA hS hlen hlo hst hl
      refine lv_dup2_11 C.1 C.2.1 hd (by rw [gx_cv_cat]; exact hst v List.mem_cons_self) (by rw [gx_cv_cat]; exact hst u (List.mem_cons_of_mem _ List.mem_cons_self)) ?_
      exact hG _ _ _ _ h p e s m args below meth c A H locs ls C hr hlk hK hP hD hA hS hlen hlo (gx_cons_cat (gx_cons_cat hst (hst u (List.mem_cons_of_mem _ List.mem_cons_self))) (hst v List.mem_cons_self)) hl
    · exact h.elim
  case pop =>
    dsimp only [gx_step] at h
    split at h
    · rename_i v st1
      intro p e s m args below meth c A H locs ls C hr hlk hK hP hD hA hS hlen hlo hst hl
      refine lv_pop C.1 C.2.1 hd (by rw [gx_cv_cat]; exact hst v List.mem_cons_self) ?_
      exact hG _ _ _ _ h p e s m args below meth c A H locs ls C hr hlk hK hP hD hA hS hlen hlo (fun v hv => hst v (List.mem_cons_of_mem _ hv)) hl
    · exact h.elim
  case goto d =>
    dsimp only [gx_step] at h
    have hj2 : (pc : Int) + d = (t : Int) := of_decide_eq_true hj
    intro p e s m args below meth c A H locs ls C hr hlk hK hP hD hA hS hlen hlo hst hl
    refine lv_goto C.1 C.2.1 hd hj2 ?_
    exact hG _ _ _ _ h p e s m args below meth c A H locs ls C hr hlk hK hP hD hA hS hlen hlo hst hl
  case ifCond cc d =>
    dsimp only [gx_step] at h
    have hj2 : (pc : Int) + d = (t : Int) := of_decide_eq_true hj
    split at h
    · rename_i x st1
      obtain ⟨h1, h2⟩ := h
      intro p e s m args below meth c A H locs ls C hr hlk hK hP hD hA hS hlen hlo hst hl
      cases cc <;> dsimp only [gx_cnd] at h1 h2
      · refine lv_if_eq C.1 C.2.1 hd hj2 (fun q => ?_) (fun q => ?_)
        · exact hG _ _ _ _ (h1 q) p e s m args below meth c A H locs ls C hr hlk hK hP hD hA hS hlen hlo (fun v hv => hst v (List.mem_cons_of_mem _ hv)) hl
        · exact hG _ _ _ _ (h2 q) p e s m args below meth c A H locs ls C hr hlk hK hP hD hA hS hlen hlo (fun v hv => hst v (List.mem_cons_of_mem _ hv)) hl
      · refine lv_if_ne C.1 C.2.1 hd hj2 (fun q => ?_) (fun q => ?_)
        · exact hG _ _ _ _ (h1 q) p e s m args below meth c A H locs ls C hr hlk hK hP hD hA hS hlen hlo (fun v hv => hst v (List.mem_cons_of_mem _ hv)) hl
        · exact hG _ _ _ _ (h2 (fun z => z q)) p e s m args below meth c A H locs ls C hr hlk hK hP hD hA hS hlen hlo (fun v hv => hst v (List.mem_cons_of_mem _ hv)) hl
      · refine lv_if_lt C.1 C.2.1 hd hj2 (fun q => ?_) (fun q => ?_)
        · exact hG _ _ _ _ (h1 q) p e s m args below meth c A H locs ls C hr hlk hK hP hD hA hS hlen hlo (fun v hv => hst v (List.mem_cons_of_mem _ hv)) hl
        · exact hG _ _ _ _ (h2 q) p e s m args below meth c A H locs ls C hr hlk hK hP hD hA hS hlen hlo (fun v hv => hst v (List.mem_cons_of_mem _ hv)) hl
      · refine lv_if_ge C.1 C.2.1 hd hj2 (fun q => ?_) (fun q => ?_)
        · exact hG _ _ _ _ (h1 q) p e s m args below meth c A H locs ls C hr hlk hK hP hD hA hS hlen hlo (fun v hv => hst v (List.mem_cons_of_mem _ hv)) hl
        · exact hG _ _ _ _ (h2 q) p e s m args below meth c A H locs ls C hr hlk hK hP hD hA hS hlen hlo (fun v hv => hst v (List.mem_cons_of_mem _ hv)) hl
      · refine lv_if_gt C.1 C.2.1 hd hj2 (fun q => ?_) (fun q => ?_)
        · exact hG _ _ _ _ (h1 q) p e s m args below meth c A H locs ls C hr hlk hK hP hD hA hS hlen hlo (fun v hv => hst v (List.mem_cons_of_mem _ hv)) hl
        · exact hG _ _ _ _ (h2 q) p e s m args below meth c A H locs ls C hr hlk hK hP hD hA hS hlen hlo (fun v hv => hst v (List.mem_cons_of_mem _ hv)) hl
      · refine lv_if_le C.1 C.2.1 hd hj2 (fun q => ?_) (fun q => ?_)
        · exact hG _ _ _ _ (h1 q) p e s m args below meth c A H locs ls C hr hlk hK hP hD hA hS hlen hlo (fun v hv => hst v (List.mem_cons_of_mem _ hv)) hl
        · exact hG _ _ _ _ (h2 q) p e s m args below meth c A H locs ls C hr hlk hK hP hD hA hS hlen hlo (fun v hv => hst v (List.mem_cons_of_mem _ hv)) hl
    · exact h.elim
  case if_icmp cc d =>
    dsimp only [gx_step] at h
    have hj2 : (pc : Int) + d = (t : Int) := of_decide_eq_true hj
    split at h
    · rename_i y x st1
      obtain ⟨h1, h2⟩ := h
      intro p e s m args below meth c A H locs ls C hr hlk hK hP hD hA hS hlen hlo hst hl
      cases cc <;> dsimp only [gx_cnd] at h1 h2
      · refine lv_icmp_eq C.1 C.2.1 hd hj2 (fun q => ?_) (fun q => ?_)
        · exact hG _ _ _ _ (h1 q) p e s m args below meth c A H locs ls C hr hlk hK hP hD hA hS hlen hlo (fun v hv => hst v (List.mem_cons_of_mem _ (List.mem_cons_of_mem _ hv))) hl
        · exact hG _ _ _ _ (h2 q) p e s m args below meth c A H locs ls C hr hlk hK hP hD hA hS hlen hlo (fun v hv => hst v (List.mem_cons_of_mem _ (List.mem_cons_of_mem _ hv))) hl
      · refine lv_icmp_ne C.1 C.2.1 hd hj2 (fun q => ?_) (fun q => ?_)
        · exact hG _ _ _ _ (h1 q) p e s m args below meth c A H locs ls C hr hlk hK hP hD hA hS hlen hlo (fun v hv => hst v (List.mem_cons_of_mem _ (List.mem_cons_of_mem _ hv))) hl
        · exact hG _ _ _ _ (h2 (fun z => z q)) p e s m args below meth c A H locs ls C hr hlk hK hP hD hA hS hlen hlo (fun v hv => hst v (List.mem_cons_of_mem _ (List.mem_cons_of_mem _ hv))) hl
      · refine lv_icmp_lt C.1 C.2.1 hd hj2 (fun q => ?_) (fun q => ?_)
        · exact hG _ _ _ _ (h1 q) p e s m args below meth c A H locs ls C hr hlk hK hP hD hA hS hlen hlo (fun v hv => hst v (List.mem_cons_of_mem _ (List.mem_cons_of_mem _ hv))) hl
        · exact hG _ _ _ _ (h2 q) p e s m args below meth c A H locs ls C hr hlk hK hP hD hA hS hlen hlo (fun v hv => hst v (List.mem_cons_of_mem _ (List.mem_cons_of_mem _ hv))) hl
      · refine lv_icmp_ge C.1 C.2.1 hd hj2 (fun q => ?_) (fun q => ?_)
        · exact hG _ _ _ _ (h1 q) p e s m args below meth c A H locs ls C hr hlk hK hP hD hA hS hlen hlo (fun v hv => hst v (List.mem_cons_of_mem _ (List.mem_cons_of_mem _ hv))) hl
        · exact hG _ _ _ _ (h2 q) p e s m args below meth c A H locs ls C hr hlk hK hP hD hA hS hlen hlo (fun v hv => hst v (List.mem_cons_of_mem _ (List.mem_cons_of_mem _ hv))) hl
      · refine lv_icmp_gt C.1 C.2.1 hd hj2 (fun q => ?_) (fun q => ?_)
        · exact hG _ _ _ _ (h1 q) p e s m args below meth c A H locs ls C hr hlk hK hP hD hA hS hlen hlo (fun v hv => hst v (List.mem_cons_of_mem _ (List.mem_cons_of_mem _ hv))) hl
        · exact hG _ _ _ _ (h2 q) p e s m args below meth c A H locs ls C hr hlk hK hP hD hA hS hlen hlo (fun v hv => hst v (List.mem_cons_of_mem _ (List.mem_cons_of_mem _ hv))) hl
      · refine lv_icmp_le C.1 C.2.1 hd hj2 (fun q => ?_) (fun q => ?_)
        · exact hG _ _ _ _ (h1 q) p e s m args below meth c A H locs ls C hr hlk hK hP hD hA hS hlen hlo (fun v hv => hst v (List.mem_cons_of_mem _ (List.mem_cons_of_mem _ hv))) hl
        · exact hG _ _ _ _ (h2 q) p e s m args below meth c A H locs ls C hr hlk hK hP hD hA hS hlen hlo (fun v hv => hst v (List.mem_cons_of_mem _ (List.mem_cons_of_mem _ hv))) hl
    · exact h.elim
  case getfield k =>
    dsimp only [gx_step] at h
    split at h
    · rename_i p0 st1
      split at h
      · rename_i ci j cj sl hf ha
        obtain ⟨rfl, h⟩ := h
        obtain ⟨C1, T, N, hc, hjN, hlk1⟩ := gx_link hf
        split at h
        · rename_i hs
          intro p e s m args below meth c A H locs ls C hr hlk hK hP hD hA hS hlen hlo hst hl
          refine va_get (D := X.2.1) (ci := ci) (v := .int (M p0 j)) C.1 C.2.1 C.2.2.2.2 (fun w hw => gx_wd_in (gx_lays ci _ hc w hw)) C.2.2.2.1 hK hP p0 (fs := sl.mapIdx (gx_sv X.2.2.1 (M p0))) (gx_ws_at ha) hc j hjN (C.2.2.2.2 _ (gx_wd_in hlk1)) (fun _ z => z) (by rw [List.getElem?_mapIdx, hs]; rfl) hd ?_
          exact hG _ _ _ _ h p e s m args below meth c A H locs ls C hr hlk hK hP hD hA hS hlen hlo (gx_cons_cat (fun v hv => hst v (List.mem_cons_of_mem _ hv)) rfl) hl
        · rename_i q hs
          intro p e s m args below meth c A H locs ls C hr hlk hK hP hD hA hS hlen hlo hst hl
          refine va_get (D := X.2.1) (ci := ci) (v := .ref (X.2.2.1 q)) C.1 C.2.1 C.2.2.2.2 (fun w hw => gx_wd_in (gx_lays ci _ hc w hw)) C.2.2.2.1 hK hP p0 (fs := sl.mapIdx (gx_sv X.2.2.1 (M p0))) (gx_ws_at ha) hc j hjN (C.2.2.2.2 _ (gx_wd_in hlk1)) (fun _ z => z) (by rw [List.getElem?_mapIdx, hs]; rfl) hd ?_
          exact hG _ _ _ _ h p e s m args below meth c A H locs ls C hr hlk hK hP hD hA hS hlen hlo (gx_cons_cat (fun v hv => hst v (List.mem_cons_of_mem _ hv)) rfl) hl
        · exact h.elim
      · exact h.elim
    · exact h.elim
  case putfield k =>
    dsimp only [gx_step] at h
    split at h
    · rename_i x p0 st1
      split at h
      · rename_i ci j cj sl hf ha
        obtain ⟨rfl, hs, hty, h⟩ := h
        obtain ⟨C1, T, N, hc, hjN, hlk1⟩ := gx_link hf
        have hx : (gx_ty ci j = .int ∨ gx_ty ci j = .boolean) ∧ narrow (gx_ty ci j) (.int x) = .int x ∧ fits (gx_ty ci j) (.int x) = true := by
          split at hty
          · rename_i e1
            rw [e1]
            exact ⟨Or.inl rfl, rfl, rfl⟩
          · rename_i e1
            rw [e1]
            exact ⟨Or.inr rfl, (gx_bl_nar hty).1, (gx_bl_nar hty).2.1⟩
          · exact hty.elim
        intro p e s m args below meth c A H locs ls C hr hlk hK hP hD hA hS hlen hlo hst hl
        refine va_put (D := X.2.1) (ci := ci) (v := .int x) (ty := gx_ty ci j) C.1 C.2.1 C.2.2.2.2 (fun w hw => gx_wd_in (gx_lays ci _ hc w hw)) (gx_ty ci) (gx_tys_ok ci _ hc).1 (gx_tys_ok ci _ hc).2 C.2.2.2.1 hK hP hD hS p0 (fs := sl.mapIdx (gx_sv X.2.2.1 (M p0))) (gx_ws_at ha) hc j hjN (C.2.2.2.2 _ (gx_wd_in hlk1)) (fun _ z => z) (gx_nf ci _ hc j hjN hx.1) ((gx_tys_ok ci _ hc).1 j hjN) hx.2.1 hx.2.2 (by rw [List.length_mapIdx]; exact (List.getElem?_eq_some_iff.mp hs).1) hd (fun H1 locs1 hP1 hD1 hS1 => ?_)
        rw [gx_sl_set hs x] at hP1 hD1
        have e2 := gx_ws_set (ad := X.2.2.1) (cA := X.2.2.2) (M := M) ha (upd (M p0) j x)
        have hP2 : va_P X.2.1 gx_cl (gx_ws X.2.2.1 X.2.2.2 (gx_w M p0 j x)) H1 := by rw [gx_w_eq, ← e2]; exact hP1
        have hD2 : va_D A (gx_ws X.2.2.1 X.2.2.2 (gx_w M p0 j x)) := by rw [gx_w_eq, ← e2]; exact hD1
        exact hG _ _ _ _ h p e s m args below meth c A H1 locs1 ls C hr hlk hK hP2 hD2 hA hS1 hlen hlo (fun v hv => hst v (List.mem_cons_of_mem _ (List.mem_cons_of_mem _ hv))) hl
      · exact h.elim
    · exact h.elim
  case iaload =>
    dsimp only [gx_step] at h
    split at h
    · rename_i i p0 st1
      split at h
      · rename_i n ha
        obtain ⟨hin0, h⟩ := h
        have hin : vp_in i n := vp_in_iff.mpr hin0
        intro p e s m args below meth c A H locs ls C hr hlk hK hP hD hA hS hlen hlo hst hl
        refine va_iald C.1 C.2.1 hK hP p0 0 (f := M p0) (gx_ws_at ha) rfl hin hd ?_
        exact hG _ _ _ _ h p e s m args below meth c A H locs ls C hr hlk hK hP hD hA hS hlen hlo (gx_cons_cat (fun v hv => hst v (List.mem_cons_of_mem _ (List.mem_cons_of_mem _ hv))) rfl) hl
      · exact h.elim
    · exact h.elim
  case baload =>
    dsimp only [gx_step] at h
    split at h
    · rename_i i p0 st1
      split at h
      · rename_i n ha
        obtain ⟨hin0, h⟩ := h
        have hin : vp_in i n := vp_in_iff.mpr hin0
        intro p e s m args below meth c A H locs ls C hr hlk hK hP hD hA hS hlen hlo hst hl
        refine va_zald C.1 C.2.1 hK hP p0 1 (f := M p0) (gx_ws_at ha) rfl hin hd ?_
        exact hG _ _ _ _ h p e s m args below meth c A H locs ls C hr hlk hK hP hD hA hS hlen hlo (gx_cons_cat (fun v hv => hst v (List.mem_cons_of_mem _ (List.mem_cons_of_mem _ hv))) rfl) hl
      · exact h.elim
    · exact h.elim
  case iastore =>
    dsimp only [gx_step] at h
    split at h
    · rename_i x i p0 st1
      split at h
      · rename_i n ha
        obtain ⟨hin0, h⟩ := h
        have hin : vp_in i n := vp_in_iff.mpr hin0
        intro p e s m args below meth c A H locs ls C hr hlk hK hP hD hA hS hlen hlo hst hl
        refine va_iast C.1 C.2.1 hK hP hD hS p0 0 (f := M p0) (gx_ws_at ha) rfl hin hd (fun H1 locs1 hP1 hD1 hS1 => ?_)
        skip
        have e2 := gx_ws_set (ad := X.2.2.1) (cA := X.2.2.2) (M := M) ha (upd (M p0) i.toNatClampNeg x)
        have hP2 : va_P X.2.1 gx_cl (gx_ws X.2.2.1 X.2.2.2 (gx_w M p0 i.toInt.toNat x)) H1 := by rw [gx_w_eq]; show va_P _ _ (gx_ws _ _ (va_up M p0 (upd (M p0) i.toNatClampNeg x))) _; rw [← e2]; exact hP1
        have hD2 : va_D A (gx_ws X.2.2.1 X.2.2.2 (gx_w M p0 i.toInt.toNat x)) := by rw [gx_w_eq]; show va_D _ (gx_ws _ _ (va_up M p0 (upd (M p0) i.toNatClampNeg x))); rw [← e2]; exact hD1
        exact hG _ _ _ _ h p e s m args below meth c A H1 locs1 ls C hr hlk hK hP2 hD2 hA hS1 hlen hlo (fun v hv => hst v (List.mem_cons_of_mem _ (List.mem_cons_of_mem _ (List.mem_cons_of_mem _ hv)))) hl
      · exact h.elim
    · exact h.elim
  case bastore =>
    dsimp only [gx_step] at h
    split at h
    · rename_i x i p0 st1
      split at h
      · rename_i n ha
        obtain ⟨hbx, hin0, h⟩ := h
        have hin : vp_in i n := vp_in_iff.mpr hin0
        intro p e s m args below meth c A H locs ls C hr hlk hK hP hD hA hS hlen hlo hst hl
        refine va_zast C.1 C.2.1 hK hP hD hS p0 1 (f := M p0) (gx_ws_at ha) rfl hin hd (fun H1 locs1 hP1 hD1 hS1 => ?_)
        rw [(gx_bl_nar hbx).2.2] at hP1 hD1
        have e2 := gx_ws_set (ad := X.2.2.1) (cA := X.2.2.2) (M := M) ha (upd (M p0) i.toNatClampNeg x)
        have hP2 : va_P X.2.1 gx_cl (gx_ws X.2.2.1 X.2.2.2 (gx_w M p0 i.toInt.toNat x)) H1 := by rw [gx_w_eq]; show va_P _ _ (gx_ws _ _ (va_up M p0 (upd (M p0) i.toNatClampNeg x))) _; rw [← e2]; exact hP1
        have hD2 : va_D A (gx_ws X.2.2.1 X.2.2.2 (gx_w M p0 i.toInt.toNat x)) := by rw [gx_w_eq]; show va_D _ (gx_ws _ _ (va_up M p0 (upd (M p0) i.toNatClampNeg x))); rw [← e2]; exact hD1
        exact hG _ _ _ _ h p e s m args below meth c A H1 locs1 ls C hr hlk hK hP2 hD2 hA hS1 hlen hlo (fun v hv => hst v (List.mem_cons_of_mem _ (List.mem_cons_of_mem _ (List.mem_cons_of_mem _ hv)))) hl
      · exact h.elim
    · exact h.elim
  case aaload =>
    dsimp only [gx_step] at h
    split at h
    · rename_i i p0 st1
      split at h
      · rename_i qs ha
        obtain ⟨hin0, h⟩ := h
        have hin : vp_in i qs.length := vp_in_iff.mpr hin0
        have hlt : i.toNatClampNeg < qs.length := Nat.not_le.mp fun q => hin (Or.inr q)
        intro p e s m args below meth c A H locs ls C hr hlk hK hP hD hA hS hlen hlo hst hl
        refine W.aald (v := .ref (X.2.2.1 (qs.getD i.toNatClampNeg 0))) (ty := .array .int) C.1 C.2.1 (hP p0 _ (gx_ws_at ha)) ((hK.2 2 _ rfl).1 qs.length (fun j => va_rf ((qs[j]?).map X.2.2.1))) rfl (fun q => by cases q) (by show ¬ (i < 0 ∨ (arrV _ _ _).slots.size ≤ _); rw [arrV_size]; exact hin) (by show (arrV _ _ _).slots[_]? = _; rw [arrV_read _ _ hlt]; show some (va_rf ((qs[i.toNatClampNeg]?).map X.2.2.1)) = _; rw [List.getD_eq_getElem?_getD, List.getElem?_eq_getElem hlt]; rfl) rfl rfl hd ?_
        exact hG _ _ _ _ h p e s m args below meth c A H locs ls C hr hlk hK hP hD hA hS hlen hlo (gx_cons_cat (fun v hv => hst v (List.mem_cons_of_mem _ (List.mem_cons_of_mem _ hv))) rfl) hl
      · exact h.elim
    · exact h.elim
  case arraylength =>
    dsimp only [gx_step] at h
    split at h
    · rename_i p0 st1
      split at h
      · rename_i n ha
        intro p e s m args below meth c A H locs ls C hr hlk hK hP hD hA hS hlen hlo hst hl
        refine va_alen C.1 C.2.1 hK hP p0 0 (gx_ws_at ha) rfl rfl hd ?_
        exact hG _ _ _ _ h p e s m args below meth c A H locs ls C hr hlk hK hP hD hA hS hlen hlo (gx_cons_cat (fun v hv => hst v (List.mem_cons_of_mem _ hv)) rfl) hl
      · exact h.elim
    · exact h.elim
  case invokevirtual k =>
    dsimp only [gx_step] at h
    split at h
    · rename_i ν n hm
      split at h
      · rename_i p0 as hst1
        split at h
        · rename_i cj sl ha
          obtain ⟨rfl, hn1, hn2, h⟩ := h
          obtain ⟨q1, q2, q3, q4, q5, q6, q7, q8, q9, q10, q11⟩ := gx_ml_ok hm
          have hrk2 : n ≤ gx_mL ν ∧ (gx_rm ν).frames + 1 ≤ (gx_rm μ).frames ∧ 8 + (gx_mL ν + 11) + (gx_rm ν).locals ≤ (gx_rm μ).locals := by
            dsimp only [gx_rok] at hrk
            rw [hm] at hrk
            exact of_decide_eq_true hrk
          have hst2 : st = as.reverse ++ .ref p0 :: st.drop n := by
            have e1 := gx_take hn1
            rw [hst1, List.reverse_cons, List.append_assoc] at e1
            exact e1
          have hlenA : (Value.ref p0 :: as).length = n := by rw [← hst1, List.length_reverse, List.length_take]; omega
          obtain ⟨C1, T, N, hc⟩ : ∃ C T N, gx_cl[gx_on ν]? = some (C, T, N) := by
            match gx_on ν, q9 with
            | 0, _ => exact ⟨_, _, _, rfl⟩
            | 1, _ => exact ⟨_, _, _, rfl⟩
            | 2, _ => exact ⟨_, _, _, rfl⟩
            | 3, _ => exact ⟨_, _, _, rfl⟩
            | 4, _ => exact ⟨_, _, _, rfl⟩
          have hcn : (gx_y ν).cls = C1 := by
            rw [q8]
            generalize gx_on ν = z at q9 hc
            match z, q9, hc with
            | 0, _, hc => cases hc; rfl
            | 1, _, hc => cases hc; rfl
            | 2, _, hc => cases hc; rfl
            | 3, _, hc => cases hc; rfl
            | 4, _, hc => cases hc; rfl
          intro p e s m args below meth c A H locs ls C hr hlk hK hP hD hA hS hlen hlo hst hl
          have hstk : st.map (gx_cv X.2.2.1) = (as.map (gx_cv X.2.2.1)).reverse ++ Value.ref (X.2.2.1 p0) :: (st.drop n).map (gx_cv X.2.2.1) := by
            have e9 := congrArg (List.map (gx_cv X.2.2.1)) hst2
            rw [List.map_append, List.map_reverse, List.map_cons] at e9
            exact e9
          have hcatA : ∀ v ∈ (Value.ref p0 :: as), v.category = 1 := fun v hv => hst v (by rw [hst2]; rcases List.mem_cons.mp hv with z | z <;> simp [z])
          have hrun := va_runV (l := X.1) (As := as.map (gx_cv X.2.2.1)) (rest := (st.drop n).map (gx_cv X.2.2.1)) (b := X.2.2.1 p0) (locs := locs) (cells := 0) (slots := 0) (below := below) (meth := meth) (e := e) (g := F0 m pc ls (st.map (gx_cv X.2.2.1))) C (gx_met (X := X) (ν := ν) (as := .ref p0 :: as) (M := M) q1 hcatA (by rw [hlenA]; exact hrk2.1) h H.size)
            (cwV (R := (headSpec (gx_wd μ) (gx_rm μ)).room) (C := C1) (n - 1) C.2.2.2.2 (gx_goodIn (fun w hw => by
              rcases List.mem_append.mp hw with z | z
              · simp only [List.mem_cons, List.not_mem_nil, or_false] at z
                rcases z with rfl | rfl | rfl | rfl
                · exact q2
                · exact q10
                · rw [← hcn]; exact q11
                · rw [← hcn]; exact q3
              · rcases List.mem_cons.mp z with rfl | z
                · exact gx_kn q1
                · exact z)) rfl rfl rfl ⟨hcn, q4, q5, q6⟩ hrk2.2)
            ⟨gx_blind, va_recv hK hP (ci := gx_on ν) (q0 := p0) hc (gx_ws_at ha), (fun U hU hW => ⟨rfl, by rw [hU], by rw [hU]; exact hP, va_K.moved hW.alike hK, hD.weaken (fun _ _ _ _ => trivial)⟩)⟩ rfl (by rw [List.length_map]; have := hlenA; rw [List.length_cons] at this; omega) hl.1 hstk (lv_room (by rw [gx_sum _ _ (fun v hv => hst v (List.mem_of_mem_drop hv)), List.length_drop]; omega)) hd ⟨Nat.zero_le _, Nat.zero_le _⟩
          refine gx_call hrun hS (gx_freeA hD hS hA) (fun v u H1 locs1 hpv hcat hP1 hD1 hS1 => ?_)
          have h := gx_nx_ok hpv hcat.1
          have e3 : (v.map (gx_cv X.2.2.1)).toList ++ (st.drop n).map (gx_cv X.2.2.1) = (v.toList ++ st.drop n).map (gx_cv X.2.2.1) := by cases v <;> rfl
          rw [e3]
          exact hG _ _ _ _ h p e s m args below meth c A H1 locs1 ls C hr hlk hK hP1 hD1 hA hS1 hlen hlo (fun w hw => (List.mem_append.mp hw).elim (hcat.2 w) (fun z => hst w (List.mem_of_mem_drop z))) hl
        · exact h.elim
      · exact h.elim
    · exact h.elim
  case invokestatic k =>
    dsimp only [gx_step] at h
    split at h
    · rename_i ν n hm
      obtain ⟨hn1, hn2, h⟩ := h
      obtain ⟨q1, q2, q3, q4, q5, q6, q7⟩ := gx_ml_ok hm
      have hrk2 : n ≤ gx_mL ν ∧ (gx_rm ν).frames + 1 ≤ (gx_rm μ).frames ∧ 8 + (gx_mL ν + 11) + (gx_rm ν).locals ≤ (gx_rm μ).locals := by
        dsimp only [gx_rok] at hrk
        rw [hm] at hrk
        exact of_decide_eq_true hrk
      generalize hst1 : (st.take n).reverse = as at h
      have hst2 : st = as.reverse ++ st.drop n := by rw [← hst1]; exact gx_take hn1
      have hlenA : as.length = n := by rw [← hst1, List.length_reverse, List.length_take]; omega
      intro p e s m args below meth c A H locs ls C hr hlk hK hP hD hA hS hlen hlo hst hl
      have hstk : st.map (gx_cv X.2.2.1) = (as.map (gx_cv X.2.2.1)).reverse ++ (st.drop n).map (gx_cv X.2.2.1) := by
        have e9 := congrArg (List.map (gx_cv X.2.2.1)) hst2
        rw [List.map_append, List.map_reverse] at e9
        exact e9
      have hcatA : ∀ v ∈ as, v.category = 1 := fun v hv => hst v (by rw [hst2]; simp [hv])
      have hrun := va_runS (l := X.1) (As := as.map (gx_cv X.2.2.1)) (rest := (st.drop n).map (gx_cv X.2.2.1)) (locs := locs) (cells := 0) (slots := 0) (below := below) (meth := meth) (e := e) (g := F0 m pc ls (st.map (gx_cv X.2.2.1))) C (gx_met (X := X) (ν := ν) (as := as) (M := M) q1 hcatA (by rw [hlenA]; exact hrk2.1) h H.size)
        (va_cwS (R := (headSpec (gx_wd μ) (gx_rm μ)).room) n C.2.2.2.2 (gx_goodIn (fun w hw => by
          rcases List.mem_append.mp hw with z | z
          · simp only [List.mem_cons, List.not_mem_nil, or_false] at z
            rcases z with rfl | rfl | rfl
            · exact q2
            · exact q7
            · exact q3
          · rcases List.mem_cons.mp z with rfl | z
            · exact gx_kn q1
            · exact z)) rfl rfl rfl ⟨q4, q5, q6⟩ hrk2.2)
        ⟨gx_blind, (fun U hU hW => ⟨rfl, by rw [hU], by rw [hU]; exact hP, va_K.moved hW.alike hK, hD.weaken (fun _ _ _ _ => trivial)⟩)⟩ rfl (by rw [List.length_map]; exact hlenA) hl.1 hstk (lv_room (by rw [gx_sum _ _ (fun v hv => hst v (List.mem_of_mem_drop hv)), List.length_drop]; omega)) hd ⟨Nat.zero_le _, Nat.zero_le _⟩
      refine gx_call hrun hS (gx_freeA hD hS hA) (fun v u H1 locs1 hpv hcat hP1 hD1 hS1 => ?_)
      have h := gx_nx_ok hpv hcat.1
      have e3 : (v.map (gx_cv X.2.2.1)).toList ++ (st.drop n).map (gx_cv X.2.2.1) = (v.toList ++ st.drop n).map (gx_cv X.2.2.1) := by cases v <;> rfl
      rw [e3]
      exact hG _ _ _ _ h p e s m args below meth c A H1 locs1 ls C hr hlk hK hP1 hD1 hA hS1 hlen hlo (fun w hw => (List.mem_append.mp hw).elim (hcat.2 w) (fun z => hst w (List.mem_of_mem_drop z))) hl
    · exact h.elim
    · rename_i hm
      split at h
      · rename_i n dp q1 sp q0 st1 hcp
        split at h
        · rename_i n0 n1 ha0 ha1
          obtain ⟨hs8, ⟨g1, g2, g3, g4, g5⟩, h⟩ := h
          have nn : ∀ z : Int32, 0 ≤ z.toInt → ¬ z < 0 := fun z hz q => by
            have := Int32.lt_iff_toInt_lt.mp q
            simp at this
            omega
          have h1 := nn _ g1
          have h2 := nn _ g2
          have h3 := nn _ g3
          have h4 : sp.toNatClampNeg + n.toNatClampNeg ≤ n0 := by
            show sp.toInt.toNat + n.toInt.toNat ≤ n0
            omega
          have h5 : dp.toNatClampNeg + n.toNatClampNeg ≤ n1 := by
            show dp.toInt.toNat + n.toInt.toNat ≤ n1
            omega
          have hrk2 : 1 ≤ (gx_rm μ).frames ∧ 26 ≤ (gx_rm μ).locals := by
            dsimp only [gx_rok] at hrk
            rw [hm] at hrk
            exact of_decide_eq_true hrk
          intro p e s m args below meth c A H locs ls C hr hlk hK hP hD hA hS hlen hlo hst hl
          have hst5 : ∀ v ∈ st1, v.category = 1 := fun v hv => hst v (List.mem_cons_of_mem _ (List.mem_cons_of_mem _ (List.mem_cons_of_mem _ (List.mem_cons_of_mem _ (List.mem_cons_of_mem _ hv)))))
          refine va_copyi (R := (headSpec (gx_wd μ) (gx_rm μ)).room) (ty := .int) C.1 C.2.1 (C.2.2.1.trans hl.1.symm) C.2.2.2.1 (C.2.2.2.2 _ (gx_wd_in (gx_aTok _ (gx_lookup hcp)))) (C.2.2.2.2 _ (gx_wd_in gx_anat)) (C.2.2.2.2 _ (gx_wd_in gx_asta)) (C.2.2.2.2 _ (gx_wd_in gx_aini)) hK hP hD hS q0 q1 0 0 (f := M q0) (g := M q1) (gx_ws_at ha0) (gx_ws_at ha1) rfl rfl rfl h1 h2 h3 h4 h5 (fun _ _ => rfl) hrk2.1 ?_ hd (fun H1 locs1 hP1 hD1 hS1 => ?_)
          · rw [gx_sum _ _ hst5]
            have e4 : nativeFrameWords "java/lang/System" "arraycopy" 5 = 7 := by decide
            rw [e4]
            have := hrk2.2
            show st1.length + (7 + 11) ≤ (gx_rm μ).locals
            omega
          · have e2 := gx_ws_set (ad := X.2.2.1) (cA := X.2.2.2) (M := M) ha1 (va_cpy (M q0) (M q1) sp.toNatClampNeg dp.toNatClampNeg n.toNatClampNeg)
            have hP2 : va_P X.2.1 gx_cl (gx_ws X.2.2.1 X.2.2.2 (gx_cp M q0 q1 sp.toInt.toNat dp.toInt.toNat n.toInt.toNat)) H1 := by rw [gx_cp_eq]; show va_P _ _ (gx_ws _ _ (va_up M q1 (va_cpy (M q0) (M q1) sp.toNatClampNeg dp.toNatClampNeg n.toNatClampNeg))) _; rw [← e2]; exact hP1
            have hD2 : va_D A (gx_ws X.2.2.1 X.2.2.2 (gx_cp M q0 q1 sp.toInt.toNat dp.toInt.toNat n.toInt.toNat)) := by rw [gx_cp_eq]; show va_D _ (gx_ws _ _ (va_up M q1 (va_cpy (M q0) (M q1) sp.toNatClampNeg dp.toNatClampNeg n.toNatClampNeg))); rw [← e2]; exact hD1
            exact hG _ _ _ _ h p e s m args below meth c A H1 locs1 ls C hr hlk hK hP2 hD2 hA hS1 hlen hlo hst5 hl
        · exact h.elim
      · exact h.elim
  case ireturn =>
    dsimp only [gx_step] at h
    split at h
    · rename_i v
      obtain ⟨hty, h⟩ := h
      intro p e s m args below meth c A H locs ls C hr hlk hK hP hD hA hS hlen hlo hst hl
      split at hty
      · rename_i e1
        exact W.iret (v := v) C.1 C.2.1 (hr.trans e1) (fun t ht hW => ⟨⟨some (.int v), M, rfl, h, ⟨(by unfold gx_shp; rw [e1]; exact ⟨_, rfl⟩), (fun w hw => by cases List.mem_singleton.mp hw; rfl)⟩, by rw [ht]; exact hP, va_K.moved hW.alike hK, hD⟩, hS.F ht⟩) hS.2.2 hd hlk
      · rename_i e1
        exact W.zret (v := v) C.1 C.2.1 (hr.trans e1) (gx_bl_nar hty).1 (fun t ht hW => ⟨⟨some (.int v), M, rfl, h, ⟨(by unfold gx_shp; rw [e1]; exact ⟨_, rfl⟩), (fun w hw => by cases List.mem_singleton.mp hw; rfl)⟩, by rw [ht]; exact hP, va_K.moved hW.alike hK, hD⟩, hS.F ht⟩) hS.2.2 hd hlk
      · exact hty.elim
    · exact h.elim
  case areturn =>
    dsimp only [gx_step] at h
    split at h
    · rename_i p0
      obtain ⟨hty, h⟩ := h
      intro p e s m args below meth c A H locs ls C hr hlk hK hP hD hA hS hlen hlo hst hl
      split at hty
      · rename_i ty e1
        exact W.aret (v := .ref (X.2.2.1 p0)) C.1 C.2.1 (hr.trans e1) (Or.inr ⟨_, rfl⟩) (Or.inr ⟨_, rfl⟩) (fun t ht hW => ⟨⟨some (.ref p0), M, rfl, h, ⟨(by unfold gx_shp; rw [e1]; exact ⟨_, rfl⟩), (fun w hw => by cases List.mem_singleton.mp hw; rfl)⟩, by rw [ht]; exact hP, va_K.moved hW.alike hK, hD⟩, hS.F ht⟩) hS.2.2 hd hlk
      · exact hty.elim
    · exact h.elim
  case return_ =>
    dsimp only [gx_step] at h
    split at h
    · obtain ⟨hty, h⟩ := h
      intro p e s m args below meth c A H locs ls C hr hlk hK hP hD hA hS hlen hlo hst hl
      exact W.vret C.1 C.2.1 (hr.trans hty) (fun t ht hW => ⟨⟨none, M, rfl, h, ⟨(by unfold gx_shp; rw [hty]), (fun w hw => by cases hw)⟩, by rw [ht]; exact hP, va_K.moved hW.alike hK, hD⟩, hS.F ht⟩) hS.2.2 hd hlk
    · exact h.elim
  all_goals exact h.elim
theorem gx_wp_ok {X : gx_X} {μ : Nat} {Post : Option Value → gx_M → Prop} : ∀ (n : Nat) (b : Bool) (pc : Nat) (lo st : List Value) (M : gx_M), gx_wp X μ Post n b pc lo st M → gx_OK X μ pc lo st M Post
  | 0, _, _, _, _, _, h => h
  | n + 1, b, pc, lo, st, M, h => by
    unfold gx_wp at h
    split at h
    · exact h.elim
    · rename_i c i t hi
      split at h
      · exact h
      · exact gx_sound hi (fun pc lo st M h => gx_wp_ok n true pc lo st M h) h

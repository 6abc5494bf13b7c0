theorem two_pm {r i : Int32} {f : Nat → Int64} (e : r = fX8_pushMany f) (m0 : 0 ≤ (f 122).toInt32.toInt) (m8 : (f 122).toInt32.toInt ≤ 8) (h : ¬ 2 * r ≤ i) : i.toInt < 16 := by
  rw [pm_eq] at e
  have e2 : (2 : Int32).toInt = 2 := rfl
  have h2 : (2 * r).toInt = 2 * r.toInt := by rw [kk_muli (by rw [e2, e]; omega) (by rw [e2, e]; omega), e2]
  rw [il_le, h2, e] at h
  omega
def lpX8_digest_6 (fNw : Nat → Int64) : Nat → Int32 → Int64 → Int32 × Int64
  | 0, _, _ => (0, 0)
  | N + 1, i, h =>
    if 8 ≤ i then (
    (i, h))
    else (
    let r_3 : Int64 := fX8_of i fNw
    let x1_5 : Int64 := (31 * h) + r_3
    lpX8_digest_6 fNw N (i + 1) x1_5)

def lpX8_digest_44 (fNw : Nat → Int64) : Nat → Int32 → Int64 → Int32 × Int64
  | 0, _, _ => (0, 0)
  | N + 1, i, h =>
    let r_9 : Int32 := fX8_lawLong fNw
    if r_9 ≤ i then (
    (i, h))
    else (
    let r_13 : Int32 := fX8_charAt i fNw
    let x1_15 : Int64 := (31 * h) + r_13.toInt64
    lpX8_digest_44 fNw N (i + 1) x1_15)

def lpX8_digest_73 (fNw : Nat → Int64) : Nat → Int32 → Int64 → Int32 × Int64
  | 0, _, _ => (0, 0)
  | N + 1, i, h =>
    let r_15 : Int32 := fX8_pushMany fNw
    if 2 * r_15 ≤ i then (
    (i, h))
    else (
    let x1_18 : Int64 := (31 * h) + (fNw (123 + i.toNatClampNeg))
    lpX8_digest_73 fNw N (i + 1) x1_18)

def lpX8_digest_107 (fNw : Nat → Int64) : Nat → Int32 → Int64 → Int32 × Int64
  | 0, _, _ => (0, 0)
  | N + 1, i, h =>
    if 12 ≤ i then (
    (i, h))
    else (
    let x1_21 : Int64 := (31 * h) + (((fNw i.toNatClampNeg).toInt32).toInt64)
    lpX8_digest_107 fNw N (i + 1) x1_21)

def lpX8_digest_136 (fNw : Nat → Int64) : Nat → Int32 → Int64 → Int32 × Int64
  | 0, _, _ => (0, 0)
  | N + 1, i, h =>
    if 40 ≤ i then (
    (i, h))
    else (
    let r_25 : Int32 := fX8_turnOf i fNw
    let x1_27 : Int64 := (31 * h) + r_25.toInt64
    lpX8_digest_136 fNw N (i + 1) x1_27)

def fX8_digest (fNw : Nat → Int64) : Int64 :=
  let z_3 : Int32 × Int64 := lpX8_digest_6 fNw (9) 0 487
  let r_5 : Int32 := fX8_lawLong fNw
  let x1_7 : Int64 := (31 * z_3.2) + r_5.toInt64
  let z_13 : Int32 × Int64 := lpX8_digest_44 fNw (61) 0 x1_7
  let z_19 : Int32 × Int64 := lpX8_digest_73 fNw (17) 0 z_13.2
  let z_22 : Int32 × Int64 := lpX8_digest_107 fNw (13) 0 z_19.2
  let z_25 : Int32 × Int64 := lpX8_digest_136 fNw (41) 0 z_22.2
  z_25.2

set_option maxHeartbeats 4000000 in
set_option maxRecDepth 100000 in
theorem c_X8_digest (l : Launch) (G : va_G) (aM aNw rM_kept rM_isKept rM_refused rM_values rM_signs rM_was : Nat) (cNw : ClassId) (M_at : Int32) (M_fault : Int32) (M_valueMany : Int32) (M_signMany : Int32) (M_tells : Int64) (M_way : Int32) (M_wish : Int32) (M_moreTick : Int64) (M_moreForce : Int64) (M_runTurns : Int32) (M_runFirst : Int64) (M_runLast : Int64) (M_peak : Int64) (M_beside : Int64) (M_besideAt : Int32) (fNw : Nat → Int64) (l0 : 0 ≤ (fNw 61).toInt32.toInt) (l1 : (fNw 61).toInt32.toInt ≤ 60) (m0 : 0 ≤ (fNw 122).toInt32.toInt) (m8 : (fNw 122).toInt32.toInt ≤ 8) (t6 : 0 ≤ (fNw 6).toInt) : kCl l yX8_digest (Cond.code yX8_digest cX8_digest 4 (some .long) :: wsL_law) ({ frames := 1, cells := 0, slots := 0, locals := 21 }) G [(cNw, .long)] [.ref aM] [(aM, .inr (8, [.ref aNw, .ref rM_kept, .ref rM_isKept, .ref rM_refused, .int M_at, .int M_fault, .ref rM_values, .int M_valueMany, .ref rM_signs, .int M_signMany, .long M_tells, .int M_way, .int M_wish, .long M_moreTick, .long M_moreForce, .int M_runTurns, .long M_runFirst, .long M_runLast, .ref rM_was, .long M_peak, .long M_beside, .int M_besideAt])), (aNw, .inl (cNw, 139, .inr (.inl fNw)))] (fun (r : Int64) (_ : Unit) => r = fX8_digest fNw) (fun (_ : Unit) => [(aM, .inr (8, [.ref aNw, .ref rM_kept, .ref rM_isKept, .ref rM_refused, .int M_at, .int M_fault, .ref rM_values, .int M_valueMany, .ref rM_signs, .int M_signMany, .long M_tells, .int M_way, .int M_wish, .long M_moreTick, .long M_moreForce, .int M_runTurns, .long M_runFirst, .long M_runLast, .ref rM_was, .long M_peak, .long M_beside, .int M_besideAt])), (aNw, .inl (cNw, 139, .inr (.inl fNw)))]) := by
  intro sz
  refine Met.ofW (cc := cX8_digest) (maxL := 4) (ret := (some .long)) (by decide) rfl ?_
  intro p e s m args below meth c s₁ B hml hv
  obtain ⟨rfl, hv⟩ := hv
  obtain ⟨rfl, hK, hq, hA⟩ := kk_begin hv
  have hx := B.exec
  have hb := B.bytes
  have hr := B.returns
  have hts := atoms_spec (ws := (Cond.code yX8_digest cX8_digest 4 (some .long) :: wsL_law)) B.pre
  have hown : s.vm.findClass RX8 = some m.cls := findClass_of_methodNamed B.named
  have hlocks := B.notSynchronized
  have hsb : ∀ w ∈ wsL_law, w ∈ (Cond.code yX8_digest cX8_digest 4 (some .long) :: wsL_law) := fun _ h => List.mem_cons_of_mem _ h
  generalize va_A [(aM, .inr (8, [.ref aNw, .ref rM_kept, .ref rM_isKept, .ref rM_refused, .int M_at, .int M_fault, .ref rM_values, .int M_valueMany, .ref rM_signs, .int M_signMany, .long M_tells, .int M_way, .int M_wish, .long M_moreTick, .long M_moreForce, .int M_runTurns, .long M_runFirst, .long M_runLast, .ref rM_was, .long M_peak, .long M_beside, .int M_besideAt])), (aNw, .inl (cNw, 139, .inr (.inl fNw)))] s.heap.size = A at hq hA ⊢
  have iX8 : ∀ w ∈ u_ws RX8 TX8 22, w ∈ (Cond.code yX8_digest cX8_digest 4 (some .long) :: wsL_law) := fun w h => hsb w (bin_X8 w h)
  have lk0_ := hts _ (hsb _ wd_858)
  have lk1_ := hts _ (hsb _ wd_859)
  have lk2_ := hts _ (hsb _ wd_117)
  have hl := lv_entry ([.ref aM]) (n := 4) (Nat.le_of_ble_eq_true rfl)
  rw [lg_entry_eq]
  generalize (lg_sl ([.ref aM]) ++ List.replicate (4 - (lg_sl ([.ref aM])).length) Slot.unset).toArray = ls at hl ⊢
  have hl : lv_has ls 4 [(0, .ref aM)] := hl
  refine lv_ldc2 hx hb hown lk0_ dX8_digest_0 ?_
  refine lv_lstore_n (lv' := [(1, .long 487), (0, .ref aM)]) hx hb dX8_digest_3 rfl hl (by decide) rfl (fun ls hl => ?_)
  refine lv_iconst (v := 0) hx hb dX8_digest_4 (by decide) ?_
  refine lv_istore_n (lv' := [(3, .int 0), (1, .long 487), (0, .ref aM)]) hx hb dX8_digest_5 rfl hl (by decide) rfl (fun ls hl => ?_)
  refine kk_loop2 (fun N6 (i : Int32) (h : Int64) (H : Heap) (locs : List Loc) (ls : Array Slot) => lpX8_digest_6 fNw (9) 0 487 = lpX8_digest_6 fNw N6 i h ∧ (0 ≤ i.toInt) ∧ (i.toInt ≤ 8) ∧ (i.toInt + N6 = 9) ∧ lv_has ls 4 [(3, .int i), (1, .long h), (0, .ref aM)] ∧ kAt G A s [(aM, .inr (8, [.ref aNw, .ref rM_kept, .ref rM_isKept, .ref rM_refused, .int M_at, .int M_fault, .ref rM_values, .int M_valueMany, .ref rM_signs, .int M_signMany, .long M_tells, .int M_way, .int M_wish, .long M_moreTick, .long M_moreForce, .int M_runTurns, .long M_runFirst, .long M_runLast, .ref rM_was, .long M_peak, .long M_beside, .int M_besideAt])), (aNw, .inl (cNw, 139, .inr (.inl fNw)))] H locs) 6 (fun i h => []) (fun i h H locs ls hv => ?_) (fun N6 i h H locs ls ih6 hv => ?_) (9) 0 487 _ _ _ ⟨rfl, (by decide), (by decide), (by decide), lv_sub hl [0, 1, 2] rfl, hq⟩
  · skip
    obtain ⟨hrel6, i0, i1, hN, hl, hq⟩ := hv
    omega
  · skip
    obtain ⟨hrel6, i0, i1, hN, hl, hq⟩ := hv
    refine lv_iload_n hx hb dX8_digest_6 rfl (lv_at hl 0 rfl) ?_
    refine lv_bipush (v := 8) hx hb dX8_digest_7 (by decide) ?_
    refine lv_icmp_ge (tgt := 30) hx hb dX8_digest_9 (by decide) (fun c_1 => ?_) (fun c_1 => ?_)
    · skip
      have hx_2 : ((i, h) : Int32 × Int64) = lpX8_digest_6 fNw (9) 0 487 := (hrel6.trans ((if_pos c_1))).symm
      obtain ⟨z_3, gz_3⟩ : ∃ z : Int32 × Int64, z = (i, h) := ⟨_, rfl⟩
      have ez_3 : z_3 = lpX8_digest_6 fNw (9) 0 487 := gz_3.trans hx_2
      have hl : lv_has ls 4 [(3, .int z_3.1), (1, .long z_3.2), (0, .ref aM)] := by subst gz_3; exact hl
      have hq : kAt G A s [(aM, .inr (8, [.ref aNw, .ref rM_kept, .ref rM_isKept, .ref rM_refused, .int M_at, .int M_fault, .ref rM_values, .int M_valueMany, .ref rM_signs, .int M_signMany, .long M_tells, .int M_way, .int M_wish, .long M_moreTick, .long M_moreForce, .int M_runTurns, .long M_runFirst, .long M_runLast, .ref rM_was, .long M_peak, .long M_beside, .int M_besideAt])), (aNw, .inl (cNw, 139, .inr (.inl fNw)))] H locs := by subst gz_3; exact hq
      refine lv_ldc2 hx hb hown lk1_ dX8_digest_30 ?_
      refine lv_lload_n hx hb dX8_digest_33 rfl (lv_at hl 1 rfl) ?_
      refine lv_lmul hx hb dX8_digest_34 ?_
      refine lv_aload_n hx hb dX8_digest_35 rfl (lv_at hl 2 rfl) ?_
      refine kk_Vi (As := []) (rest := [.long (31 * z_3.2)]) (wr := []) ⟨hx, hb, hml, hown, hts⟩ (c_X8_lawLong l G aM aNw rM_kept rM_isKept rM_refused rM_values rM_signs rM_was cNw M_at M_fault M_valueMany M_signMany M_tells M_way M_wish M_moreTick M_moreForce M_runTurns M_runFirst M_runLast M_peak M_beside M_besideAt fNw) (kk_cwV 0 hts hsb wd_265 wd_266 wd_267 wd_5 wd_268 rfl rfl hd_X8_lawLong ⟨Nat.le_of_ble_eq_true rfl, Nat.le_of_ble_eq_true rfl⟩) hA hK hq [0, 1] [] [0] rfl rfl rfl (by decide) (by decide) (by decide) 0 8 rfl rfl rfl rfl hl.1 rfl (Nat.le_of_ble_eq_true rfl) dX8_digest_36 ⟨Nat.zero_le _, Nat.zero_le _⟩ (fun r_5 u_4 H locs h_6 hq => ?_)
      have er_5 := h_6
      have hq : kAt G A s [(aM, .inr (8, [.ref aNw, .ref rM_kept, .ref rM_isKept, .ref rM_refused, .int M_at, .int M_fault, .ref rM_values, .int M_valueMany, .ref rM_signs, .int M_signMany, .long M_tells, .int M_way, .int M_wish, .long M_moreTick, .long M_moreForce, .int M_runTurns, .long M_runFirst, .long M_runLast, .ref rM_was, .long M_peak, .long M_beside, .int M_besideAt])), (aNw, .inl (cNw, 139, .inr (.inl fNw)))] H locs := hq
      refine lv_i2l hx hb dX8_digest_39 rfl ?_
      refine lv_ladd hx hb dX8_digest_40 ?_
      refine lv_topl (fun x1_7 ex1_7 => ?_)
      refine lv_lstore_n (lv' := [(1, .long x1_7), (3, .int z_3.1), (0, .ref aM)]) hx hb dX8_digest_41 rfl hl (by decide) rfl (fun ls hl => ?_)
      refine lv_iconst (v := 0) hx hb dX8_digest_42 (by decide) ?_
      refine lv_istore_n (lv' := [(3, .int 0), (1, .long x1_7), (0, .ref aM)]) hx hb dX8_digest_43 rfl hl (by decide) rfl (fun ls hl => ?_)
      refine kk_loop2 (fun N44 (i : Int32) (h : Int64) (H : Heap) (locs : List Loc) (ls : Array Slot) => lpX8_digest_44 fNw (61) 0 x1_7 = lpX8_digest_44 fNw N44 i h ∧ (0 ≤ i.toInt) ∧ (i.toInt ≤ 60) ∧ (i.toInt + N44 = 61) ∧ lv_has ls 4 [(3, .int i), (1, .long h), (0, .ref aM)] ∧ kAt G A s [(aM, .inr (8, [.ref aNw, .ref rM_kept, .ref rM_isKept, .ref rM_refused, .int M_at, .int M_fault, .ref rM_values, .int M_valueMany, .ref rM_signs, .int M_signMany, .long M_tells, .int M_way, .int M_wish, .long M_moreTick, .long M_moreForce, .int M_runTurns, .long M_runFirst, .long M_runLast, .ref rM_was, .long M_peak, .long M_beside, .int M_besideAt])), (aNw, .inl (cNw, 139, .inr (.inl fNw)))] H locs) 44 (fun i h => []) (fun i h H locs ls hv => ?_) (fun N44 i h H locs ls ih44 hv => ?_) (61) 0 x1_7 _ _ _ ⟨rfl, (by decide), (by decide), (by decide), lv_sub hl [0, 1, 2] rfl, hq⟩
      · skip
        obtain ⟨hrel44, i0, i1, hN, hl, hq⟩ := hv
        omega
      · skip
        obtain ⟨hrel44, i0, i1, hN, hl, hq⟩ := hv
        refine lv_iload_n hx hb dX8_digest_44 rfl (lv_at hl 0 rfl) ?_
        refine lv_aload_n hx hb dX8_digest_45 rfl (lv_at hl 2 rfl) ?_
        refine kk_Vi (As := []) (rest := [.int i]) (wr := []) ⟨hx, hb, hml, hown, hts⟩ (c_X8_lawLong l G aM aNw rM_kept rM_isKept rM_refused rM_values rM_signs rM_was cNw M_at M_fault M_valueMany M_signMany M_tells M_way M_wish M_moreTick M_moreForce M_runTurns M_runFirst M_runLast M_peak M_beside M_besideAt fNw) (kk_cwV 0 hts hsb wd_265 wd_266 wd_267 wd_5 wd_268 rfl rfl hd_X8_lawLong ⟨Nat.le_of_ble_eq_true rfl, Nat.le_of_ble_eq_true rfl⟩) hA hK hq [0, 1] [] [0] rfl rfl rfl (by decide) (by decide) (by decide) 0 8 rfl rfl rfl rfl hl.1 rfl (Nat.le_of_ble_eq_true rfl) dX8_digest_46 ⟨Nat.zero_le _, Nat.zero_le _⟩ (fun r_9 u_8 H locs h_10 hq => ?_)
        have er_9 := h_10
        have hq : kAt G A s [(aM, .inr (8, [.ref aNw, .ref rM_kept, .ref rM_isKept, .ref rM_refused, .int M_at, .int M_fault, .ref rM_values, .int M_valueMany, .ref rM_signs, .int M_signMany, .long M_tells, .int M_way, .int M_wish, .long M_moreTick, .long M_moreForce, .int M_runTurns, .long M_runFirst, .long M_runLast, .ref rM_was, .long M_peak, .long M_beside, .int M_besideAt])), (aNw, .inl (cNw, 139, .inr (.inl fNw)))] H locs := hq
        have hll := er_9
        refine lv_icmp_ge (tgt := 71) hx hb dX8_digest_49 (by decide) (fun c_11 => ?_) (fun c_11 => ?_)
        · skip
          have hx_12 : ((i, h) : Int32 × Int64) = lpX8_digest_44 fNw (61) 0 x1_7 := (hrel44.trans ((congrArg (fun (r_9 : Int32) => ((if r_9 ≤ i then (
    (i, h))
    else (
    let r_13 : Int32 := fX8_charAt i fNw
    let x1_15 : Int64 := (31 * h) + r_13.toInt64
    lpX8_digest_44 fNw N44 (i + 1) x1_15)) : Int32 × Int64)) er_9.symm).trans ((if_pos c_11)))).symm
          obtain ⟨z_13, gz_13⟩ : ∃ z : Int32 × Int64, z = (i, h) := ⟨_, rfl⟩
          have ez_13 : z_13 = lpX8_digest_44 fNw (61) 0 x1_7 := gz_13.trans hx_12
          have hl : lv_has ls 4 [(3, .int z_13.1), (1, .long z_13.2), (0, .ref aM)] := by subst gz_13; exact hl
          have hq : kAt G A s [(aM, .inr (8, [.ref aNw, .ref rM_kept, .ref rM_isKept, .ref rM_refused, .int M_at, .int M_fault, .ref rM_values, .int M_valueMany, .ref rM_signs, .int M_signMany, .long M_tells, .int M_way, .int M_wish, .long M_moreTick, .long M_moreForce, .int M_runTurns, .long M_runFirst, .long M_runLast, .ref rM_was, .long M_peak, .long M_beside, .int M_besideAt])), (aNw, .inl (cNw, 139, .inr (.inl fNw)))] H locs := by subst gz_13; exact hq
          refine lv_iconst (v := 0) hx hb dX8_digest_71 (by decide) ?_
          refine lv_istore_n (lv' := [(3, .int 0), (1, .long z_13.2), (0, .ref aM)]) hx hb dX8_digest_72 rfl hl (by decide) rfl (fun ls hl => ?_)
          refine kk_loop2 (fun N73 (i : Int32) (h : Int64) (H : Heap) (locs : List Loc) (ls : Array Slot) => lpX8_digest_73 fNw (17) 0 z_13.2 = lpX8_digest_73 fNw N73 i h ∧ (0 ≤ i.toInt) ∧ (i.toInt ≤ 16) ∧ (i.toInt + N73 = 17) ∧ lv_has ls 4 [(3, .int i), (1, .long h), (0, .ref aM)] ∧ kAt G A s [(aM, .inr (8, [.ref aNw, .ref rM_kept, .ref rM_isKept, .ref rM_refused, .int M_at, .int M_fault, .ref rM_values, .int M_valueMany, .ref rM_signs, .int M_signMany, .long M_tells, .int M_way, .int M_wish, .long M_moreTick, .long M_moreForce, .int M_runTurns, .long M_runFirst, .long M_runLast, .ref rM_was, .long M_peak, .long M_beside, .int M_besideAt])), (aNw, .inl (cNw, 139, .inr (.inl fNw)))] H locs) 73 (fun i h => []) (fun i h H locs ls hv => ?_) (fun N73 i h H locs ls ih73 hv => ?_) (17) 0 z_13.2 _ _ _ ⟨rfl, (by decide), (by decide), (by decide), lv_sub hl [0, 1, 2] rfl, hq⟩
          · skip
            obtain ⟨hrel73, i0, i1, hN, hl, hq⟩ := hv
            omega
          · skip
            obtain ⟨hrel73, i0, i1, hN, hl, hq⟩ := hv
            refine lv_iload_n hx hb dX8_digest_73 rfl (lv_at hl 0 rfl) ?_
            refine lv_iconst (v := 2) hx hb dX8_digest_74 (by decide) ?_
            refine lv_aload_n hx hb dX8_digest_75 rfl (lv_at hl 2 rfl) ?_
            refine kk_Vi (As := []) (rest := [.int 2, .int i]) (wr := []) ⟨hx, hb, hml, hown, hts⟩ (c_X8_pushMany l G aM aNw rM_kept rM_isKept rM_refused rM_values rM_signs rM_was cNw M_at M_fault M_valueMany M_signMany M_tells M_way M_wish M_moreTick M_moreForce M_runTurns M_runFirst M_runLast M_peak M_beside M_besideAt fNw) (kk_cwV 0 hts hsb wd_351 wd_352 wd_353 wd_5 wd_354 rfl rfl hd_X8_pushMany ⟨Nat.le_of_ble_eq_true rfl, Nat.le_of_ble_eq_true rfl⟩) hA hK hq [0, 1] [] [0] rfl rfl rfl (by decide) (by decide) (by decide) 0 8 rfl rfl rfl rfl hl.1 rfl (Nat.le_of_ble_eq_true rfl) dX8_digest_76 ⟨Nat.zero_le _, Nat.zero_le _⟩ (fun r_15 u_14 H locs h_16 hq => ?_)
            have er_15 := h_16
            have hq : kAt G A s [(aM, .inr (8, [.ref aNw, .ref rM_kept, .ref rM_isKept, .ref rM_refused, .int M_at, .int M_fault, .ref rM_values, .int M_valueMany, .ref rM_signs, .int M_signMany, .long M_tells, .int M_way, .int M_wish, .long M_moreTick, .long M_moreForce, .int M_runTurns, .long M_runFirst, .long M_runLast, .ref rM_was, .long M_peak, .long M_beside, .int M_besideAt])), (aNw, .inl (cNw, 139, .inr (.inl fNw)))] H locs := hq
            have hpm := er_15
            refine lv_imul hx hb dX8_digest_79 ?_
            refine lv_icmp_ge (tgt := 105) hx hb dX8_digest_80 (by decide) (fun c_17 => ?_) (fun c_17 => ?_)
            · skip
              have hx_18 : ((i, h) : Int32 × Int64) = lpX8_digest_73 fNw (17) 0 z_13.2 := (hrel73.trans ((congrArg (fun (r_15 : Int32) => ((if 2 * r_15 ≤ i then (
    (i, h))
    else (
    let x1_18 : Int64 := (31 * h) + (fNw (123 + i.toNatClampNeg))
    lpX8_digest_73 fNw N73 (i + 1) x1_18)) : Int32 × Int64)) er_15.symm).trans ((if_pos c_17)))).symm
              obtain ⟨z_19, gz_19⟩ : ∃ z : Int32 × Int64, z = (i, h) := ⟨_, rfl⟩
              have ez_19 : z_19 = lpX8_digest_73 fNw (17) 0 z_13.2 := gz_19.trans hx_18
              have hl : lv_has ls 4 [(3, .int z_19.1), (1, .long z_19.2), (0, .ref aM)] := by subst gz_19; exact hl
              have hq : kAt G A s [(aM, .inr (8, [.ref aNw, .ref rM_kept, .ref rM_isKept, .ref rM_refused, .int M_at, .int M_fault, .ref rM_values, .int M_valueMany, .ref rM_signs, .int M_signMany, .long M_tells, .int M_way, .int M_wish, .long M_moreTick, .long M_moreForce, .int M_runTurns, .long M_runFirst, .long M_runLast, .ref rM_was, .long M_peak, .long M_beside, .int M_besideAt])), (aNw, .inl (cNw, 139, .inr (.inl fNw)))] H locs := by subst gz_19; exact hq
              refine lv_iconst (v := 0) hx hb dX8_digest_105 (by decide) ?_
              refine lv_istore_n (lv' := [(3, .int 0), (1, .long z_19.2), (0, .ref aM)]) hx hb dX8_digest_106 rfl hl (by decide) rfl (fun ls hl => ?_)
              refine kk_loop2 (fun N107 (i : Int32) (h : Int64) (H : Heap) (locs : List Loc) (ls : Array Slot) => lpX8_digest_107 fNw (13) 0 z_19.2 = lpX8_digest_107 fNw N107 i h ∧ (0 ≤ i.toInt) ∧ (i.toInt ≤ 12) ∧ (i.toInt + N107 = 13) ∧ lv_has ls 4 [(3, .int i), (1, .long h), (0, .ref aM)] ∧ kAt G A s [(aM, .inr (8, [.ref aNw, .ref rM_kept, .ref rM_isKept, .ref rM_refused, .int M_at, .int M_fault, .ref rM_values, .int M_valueMany, .ref rM_signs, .int M_signMany, .long M_tells, .int M_way, .int M_wish, .long M_moreTick, .long M_moreForce, .int M_runTurns, .long M_runFirst, .long M_runLast, .ref rM_was, .long M_peak, .long M_beside, .int M_besideAt])), (aNw, .inl (cNw, 139, .inr (.inl fNw)))] H locs) 107 (fun i h => []) (fun i h H locs ls hv => ?_) (fun N107 i h H locs ls ih107 hv => ?_) (13) 0 z_19.2 _ _ _ ⟨rfl, (by decide), (by decide), (by decide), lv_sub hl [0, 1, 2] rfl, hq⟩
              · skip
                obtain ⟨hrel107, i0, i1, hN, hl, hq⟩ := hv
                omega
              · skip
                obtain ⟨hrel107, i0, i1, hN, hl, hq⟩ := hv
                refine lv_iload_n hx hb dX8_digest_107 rfl (lv_at hl 0 rfl) ?_
                refine lv_bipush (v := 12) hx hb dX8_digest_108 (by decide) ?_
                refine lv_icmp_ge (tgt := 134) hx hb dX8_digest_110 (by decide) (fun c_20 => ?_) (fun c_20 => ?_)
                · skip
                  have hx_21 : ((i, h) : Int32 × Int64) = lpX8_digest_107 fNw (13) 0 z_19.2 := (hrel107.trans ((if_pos c_20))).symm
                  obtain ⟨z_22, gz_22⟩ : ∃ z : Int32 × Int64, z = (i, h) := ⟨_, rfl⟩
                  have ez_22 : z_22 = lpX8_digest_107 fNw (13) 0 z_19.2 := gz_22.trans hx_21
                  have hl : lv_has ls 4 [(3, .int z_22.1), (1, .long z_22.2), (0, .ref aM)] := by subst gz_22; exact hl
                  have hq : kAt G A s [(aM, .inr (8, [.ref aNw, .ref rM_kept, .ref rM_isKept, .ref rM_refused, .int M_at, .int M_fault, .ref rM_values, .int M_valueMany, .ref rM_signs, .int M_signMany, .long M_tells, .int M_way, .int M_wish, .long M_moreTick, .long M_moreForce, .int M_runTurns, .long M_runFirst, .long M_runLast, .ref rM_was, .long M_peak, .long M_beside, .int M_besideAt])), (aNw, .inl (cNw, 139, .inr (.inl fNw)))] H locs := by subst gz_22; exact hq
                  refine lv_iconst (v := 0) hx hb dX8_digest_134 (by decide) ?_
                  refine lv_istore_n (lv' := [(3, .int 0), (1, .long z_22.2), (0, .ref aM)]) hx hb dX8_digest_135 rfl hl (by decide) rfl (fun ls hl => ?_)
                  refine kk_loop2 (fun N136 (i : Int32) (h : Int64) (H : Heap) (locs : List Loc) (ls : Array Slot) => lpX8_digest_136 fNw (41) 0 z_22.2 = lpX8_digest_136 fNw N136 i h ∧ (0 ≤ i.toInt) ∧ (i.toInt ≤ 40) ∧ (i.toInt + N136 = 41) ∧ lv_has ls 4 [(3, .int i), (1, .long h), (0, .ref aM)] ∧ kAt G A s [(aM, .inr (8, [.ref aNw, .ref rM_kept, .ref rM_isKept, .ref rM_refused, .int M_at, .int M_fault, .ref rM_values, .int M_valueMany, .ref rM_signs, .int M_signMany, .long M_tells, .int M_way, .int M_wish, .long M_moreTick, .long M_moreForce, .int M_runTurns, .long M_runFirst, .long M_runLast, .ref rM_was, .long M_peak, .long M_beside, .int M_besideAt])), (aNw, .inl (cNw, 139, .inr (.inl fNw)))] H locs) 136 (fun i h => []) (fun i h H locs ls hv => ?_) (fun N136 i h H locs ls ih136 hv => ?_) (41) 0 z_22.2 _ _ _ ⟨rfl, (by decide), (by decide), (by decide), lv_sub hl [0, 1, 2] rfl, hq⟩
                  · skip
                    obtain ⟨hrel136, i0, i1, hN, hl, hq⟩ := hv
                    omega
                  · skip
                    obtain ⟨hrel136, i0, i1, hN, hl, hq⟩ := hv
                    refine lv_iload_n hx hb dX8_digest_136 rfl (lv_at hl 0 rfl) ?_
                    refine lv_bipush (v := 40) hx hb dX8_digest_137 (by decide) ?_
                    refine lv_icmp_ge (tgt := 161) hx hb dX8_digest_139 (by decide) (fun c_23 => ?_) (fun c_23 => ?_)
                    · skip
                      have hx_24 : ((i, h) : Int32 × Int64) = lpX8_digest_136 fNw (41) 0 z_22.2 := (hrel136.trans ((if_pos c_23))).symm
                      obtain ⟨z_25, gz_25⟩ : ∃ z : Int32 × Int64, z = (i, h) := ⟨_, rfl⟩
                      have ez_25 : z_25 = lpX8_digest_136 fNw (41) 0 z_22.2 := gz_25.trans hx_24
                      have hl : lv_has ls 4 [(3, .int z_25.1), (1, .long z_25.2), (0, .ref aM)] := by subst gz_25; exact hl
                      have hq : kAt G A s [(aM, .inr (8, [.ref aNw, .ref rM_kept, .ref rM_isKept, .ref rM_refused, .int M_at, .int M_fault, .ref rM_values, .int M_valueMany, .ref rM_signs, .int M_signMany, .long M_tells, .int M_way, .int M_wish, .long M_moreTick, .long M_moreForce, .int M_runTurns, .long M_runFirst, .long M_runLast, .ref rM_was, .long M_peak, .long M_beside, .int M_besideAt])), (aNw, .inl (cNw, 139, .inr (.inl fNw)))] H locs := by subst gz_25; exact hq
                      refine lv_lload_n hx hb dX8_digest_161 rfl (lv_at hl 1 rfl) ?_
                      have hf : (z_25.2 : Int64) = fX8_digest fNw := by
                        exact ((congrArg (fun (z_3 : Int32 × Int64) => ((let r_5 : Int32 := fX8_lawLong fNw
  let x1_7 : Int64 := (31 * z_3.2) + r_5.toInt64
  let z_13 : Int32 × Int64 := lpX8_digest_44 fNw (61) 0 x1_7
  let z_19 : Int32 × Int64 := lpX8_digest_73 fNw (17) 0 z_13.2
  let z_22 : Int32 × Int64 := lpX8_digest_107 fNw (13) 0 z_19.2
  let z_25 : Int32 × Int64 := lpX8_digest_136 fNw (41) 0 z_22.2
  z_25.2) : Int64)) ez_3.symm).trans ((congrArg (fun (r_5 : Int32) => ((let x1_7 : Int64 := (31 * z_3.2) + r_5.toInt64
  let z_13 : Int32 × Int64 := lpX8_digest_44 fNw (61) 0 x1_7
  let z_19 : Int32 × Int64 := lpX8_digest_73 fNw (17) 0 z_13.2
  let z_22 : Int32 × Int64 := lpX8_digest_107 fNw (13) 0 z_19.2
  let z_25 : Int32 × Int64 := lpX8_digest_136 fNw (41) 0 z_22.2
  z_25.2) : Int64)) er_5.symm).trans ((congrArg (fun (x1_7 : Int64) => ((let z_13 : Int32 × Int64 := lpX8_digest_44 fNw (61) 0 x1_7
  let z_19 : Int32 × Int64 := lpX8_digest_73 fNw (17) 0 z_13.2
  let z_22 : Int32 × Int64 := lpX8_digest_107 fNw (13) 0 z_19.2
  let z_25 : Int32 × Int64 := lpX8_digest_136 fNw (41) 0 z_22.2
  z_25.2) : Int64)) ex1_7.symm).trans ((congrArg (fun (z_13 : Int32 × Int64) => ((let z_19 : Int32 × Int64 := lpX8_digest_73 fNw (17) 0 z_13.2
  let z_22 : Int32 × Int64 := lpX8_digest_107 fNw (13) 0 z_19.2
  let z_25 : Int32 × Int64 := lpX8_digest_136 fNw (41) 0 z_22.2
  z_25.2) : Int64)) ez_13.symm).trans ((congrArg (fun (z_19 : Int32 × Int64) => ((let z_22 : Int32 × Int64 := lpX8_digest_107 fNw (13) 0 z_19.2
  let z_25 : Int32 × Int64 := lpX8_digest_136 fNw (41) 0 z_22.2
  z_25.2) : Int64)) ez_19.symm).trans ((congrArg (fun (z_22 : Int32 × Int64) => ((let z_25 : Int32 × Int64 := lpX8_digest_136 fNw (41) 0 z_22.2
  z_25.2) : Int64)) ez_22.symm).trans ((congrArg (fun (z_25 : Int32 × Int64) => ((z_25.2) : Int64)) ez_25.symm)))))))).symm
                      exact kk_el hx hb hr hlocks hK hq [0, 1] () rfl (by decide) dX8_digest_162 hf
                    · skip
                      have hi := kk_nle (k := 40) rfl c_23
                      refine lv_ldc2 hx hb hown lk1_ dX8_digest_142 ?_
                      refine lv_lload_n hx hb dX8_digest_145 rfl (lv_at hl 1 rfl) ?_
                      refine lv_lmul hx hb dX8_digest_146 ?_
                      refine lv_aload_n hx hb dX8_digest_147 rfl (lv_at hl 2 rfl) ?_
                      refine lv_iload_n hx hb dX8_digest_148 rfl (lv_at hl 0 rfl) ?_
                      refine kk_Vi (As := [.int i]) (rest := [.long (31 * h)]) (wr := []) ⟨hx, hb, hml, hown, hts⟩ (c_X8_turnOf l G aM aNw rM_kept rM_isKept rM_refused rM_values rM_signs rM_was cNw i M_at M_fault M_valueMany M_signMany M_tells M_way M_wish M_moreTick M_moreForce M_runTurns M_runFirst M_runLast M_peak M_beside M_besideAt fNw i0 (by omega) t6) (kk_cwV 1 hts hsb wd_604 wd_605 wd_606 wd_5 wd_607 rfl rfl hd_X8_turnOf ⟨Nat.le_of_ble_eq_true rfl, Nat.le_of_ble_eq_true rfl⟩) hA hK hq [0, 1] [] [0] rfl rfl rfl (by decide) (by decide) (by decide) 0 8 rfl rfl rfl rfl hl.1 rfl (Nat.le_of_ble_eq_true rfl) dX8_digest_149 ⟨Nat.zero_le _, Nat.zero_le _⟩ (fun r_27 u_26 H locs h_28 hq => ?_)
                      have er_27 := h_28
                      have hq : kAt G A s [(aM, .inr (8, [.ref aNw, .ref rM_kept, .ref rM_isKept, .ref rM_refused, .int M_at, .int M_fault, .ref rM_values, .int M_valueMany, .ref rM_signs, .int M_signMany, .long M_tells, .int M_way, .int M_wish, .long M_moreTick, .long M_moreForce, .int M_runTurns, .long M_runFirst, .long M_runLast, .ref rM_was, .long M_peak, .long M_beside, .int M_besideAt])), (aNw, .inl (cNw, 139, .inr (.inl fNw)))] H locs := hq
                      refine lv_i2l hx hb dX8_digest_152 rfl ?_
                      refine lv_ladd hx hb dX8_digest_153 ?_
                      refine lv_topl (fun x1_29 ex1_29 => ?_)
                      refine lv_lstore_n (lv' := [(1, .long x1_29), (3, .int i), (0, .ref aM)]) hx hb dX8_digest_154 rfl hl (by decide) rfl (fun ls hl => ?_)
                      refine lv_iinc (v := i + 1) (lv' := [(3, .int (i + 1)), (1, .long x1_29), (0, .ref aM)]) hx hb dX8_digest_155 hl (k := 1) rfl rfl (by decide) rfl (fun ls hl => ?_)
                      refine lv_goto (tgt := 136) hx hb dX8_digest_158 (by decide) ?_
                      exact ih136 (i + 1) x1_29 _ _ _ ⟨(hrel136.trans ((if_neg c_23).trans ((congrArg (fun (r_27 : Int32) => ((let x1_27 : Int64 := (31 * h) + r_27.toInt64
    lpX8_digest_136 fNw N136 (i + 1) x1_27) : Int32 × Int64)) er_27.symm).trans ((congrArg (fun (x1_29 : Int64) => ((lpX8_digest_136 fNw N136 (i + 1) x1_29) : Int32 × Int64)) ex1_29.symm))))), (by have := kk_inc (x := i) (by omega); omega), (by have := kk_inc (x := i) (by omega); omega), (by have := kk_inc (x := i) (by omega); omega), lv_sub hl [0, 1, 2] rfl, hq⟩
                · skip
                  have hi := kk_nle (k := 12) rfl c_20
                  have hi9 : i.toInt < (139 : Nat) := by omega
                  refine lv_ldc2 hx hb hown lk1_ dX8_digest_113 ?_
                  refine lv_lload_n hx hb dX8_digest_116 rfl (lv_at hl 1 rfl) ?_
                  refine lv_lmul hx hb dX8_digest_117 ?_
                  refine lv_aload_n hx hb dX8_digest_118 rfl (lv_at hl 2 rfl) ?_
                  refine kk_get (ci := 8) (v := .ref aNw) (C := RX8) (T := TX8) (N := 22) hx hb hts iX8 hown hK hq 0 rfl rfl 0 (by decide) lk2_ rfl dX8_digest_119 ?_
                  refine lv_iload_n hx hb dX8_digest_122 rfl (lv_at hl 0 rfl) ?_
                  refine kk_lald hx hb hK hq 1 0 rfl rfl i.toNatClampNeg (kk_cl i0) (kk_clt i0 hi9) (by decide) dX8_digest_123 ?_
                  refine lv_l2i hx hb dX8_digest_124 rfl ?_
                  refine lv_i2l hx hb dX8_digest_125 rfl ?_
                  refine lv_ladd hx hb dX8_digest_126 ?_
                  refine lv_topl (fun x1_30 ex1_30 => ?_)
                  refine lv_lstore_n (lv' := [(1, .long x1_30), (3, .int i), (0, .ref aM)]) hx hb dX8_digest_127 rfl hl (by decide) rfl (fun ls hl => ?_)
                  refine lv_iinc (v := i + 1) (lv' := [(3, .int (i + 1)), (1, .long x1_30), (0, .ref aM)]) hx hb dX8_digest_128 hl (k := 1) rfl rfl (by decide) rfl (fun ls hl => ?_)
                  refine lv_goto (tgt := 107) hx hb dX8_digest_131 (by decide) ?_
                  exact ih107 (i + 1) x1_30 _ _ _ ⟨(hrel107.trans ((if_neg c_20).trans ((congrArg (fun (x1_30 : Int64) => ((lpX8_digest_107 fNw N107 (i + 1) x1_30) : Int32 × Int64)) ex1_30.symm)))), (by have := kk_inc (x := i) (by omega); omega), (by have := kk_inc (x := i) (by omega); omega), (by have := kk_inc (x := i) (by omega); omega), lv_sub hl [0, 1, 2] rfl, hq⟩
            · skip
              have hi : i.toInt < 16 := two_pm hpm m0 m8 c_17
              refine lv_ldc2 hx hb hown lk1_ dX8_digest_83 ?_
              refine lv_lload_n hx hb dX8_digest_86 rfl (lv_at hl 1 rfl) ?_
              refine lv_lmul hx hb dX8_digest_87 ?_
              refine lv_aload_n hx hb dX8_digest_88 rfl (lv_at hl 2 rfl) ?_
              refine kk_get (ci := 8) (v := .ref aNw) (C := RX8) (T := TX8) (N := 22) hx hb hts iX8 hown hK hq 0 rfl rfl 0 (by decide) lk2_ rfl dX8_digest_89 ?_
              refine lv_bipush (v := 123) hx hb dX8_digest_92 (by decide) ?_
              refine lv_iload_n hx hb dX8_digest_94 rfl (lv_at hl 0 rfl) ?_
              refine lv_iadd hx hb dX8_digest_95 ?_
              refine kk_lald hx hb hK hq 1 0 rfl rfl (123 + i.toNatClampNeg) (ix_add (x := i) 123 139 i0 (by omega) (by decide)).1 (ix_add (x := i) 123 139 i0 (by omega) (by decide)).2 (by decide) dX8_digest_96 ?_
              refine lv_ladd hx hb dX8_digest_97 ?_
              refine lv_topl (fun x1_31 ex1_31 => ?_)
              refine lv_lstore_n (lv' := [(1, .long x1_31), (3, .int i), (0, .ref aM)]) hx hb dX8_digest_98 rfl hl (by decide) rfl (fun ls hl => ?_)
              refine lv_iinc (v := i + 1) (lv' := [(3, .int (i + 1)), (1, .long x1_31), (0, .ref aM)]) hx hb dX8_digest_99 hl (k := 1) rfl rfl (by decide) rfl (fun ls hl => ?_)
              refine lv_goto (tgt := 73) hx hb dX8_digest_102 (by decide) ?_
              exact ih73 (i + 1) x1_31 _ _ _ ⟨(hrel73.trans ((congrArg (fun (r_15 : Int32) => ((if 2 * r_15 ≤ i then (
    (i, h))
    else (
    let x1_18 : Int64 := (31 * h) + (fNw (123 + i.toNatClampNeg))
    lpX8_digest_73 fNw N73 (i + 1) x1_18)) : Int32 × Int64)) er_15.symm).trans ((if_neg c_17).trans ((congrArg (fun (x1_31 : Int64) => ((lpX8_digest_73 fNw N73 (i + 1) x1_31) : Int32 × Int64)) ex1_31.symm))))), (by have := kk_inc (x := i) (by omega); omega), (by have := kk_inc (x := i) (by omega); omega), (by have := kk_inc (x := i) (by omega); omega), lv_sub hl [0, 1, 2] rfl, hq⟩
        · skip
          have hi : i.toInt < 60 := by have h := c_11; rw [il_le, hll, ll_eq] at h; omega
          refine lv_ldc2 hx hb hown lk1_ dX8_digest_52 ?_
          refine lv_lload_n hx hb dX8_digest_55 rfl (lv_at hl 1 rfl) ?_
          refine lv_lmul hx hb dX8_digest_56 ?_
          refine lv_aload_n hx hb dX8_digest_57 rfl (lv_at hl 2 rfl) ?_
          refine lv_iload_n hx hb dX8_digest_58 rfl (lv_at hl 0 rfl) ?_
          refine kk_Vi (As := [.int i]) (rest := [.long (31 * h)]) (wr := []) ⟨hx, hb, hml, hown, hts⟩ (c_X8_charAt l G aM aNw rM_kept rM_isKept rM_refused rM_values rM_signs rM_was cNw i M_at M_fault M_valueMany M_signMany M_tells M_way M_wish M_moreTick M_moreForce M_runTurns M_runFirst M_runLast M_peak M_beside M_besideAt fNw i0 hi) (kk_cwV 1 hts hsb wd_301 wd_302 wd_303 wd_5 wd_304 rfl rfl hd_X8_charAt ⟨Nat.le_of_ble_eq_true rfl, Nat.le_of_ble_eq_true rfl⟩) hA hK hq [0, 1] [] [0] rfl rfl rfl (by decide) (by decide) (by decide) 0 8 rfl rfl rfl rfl hl.1 rfl (Nat.le_of_ble_eq_true rfl) dX8_digest_59 ⟨Nat.zero_le _, Nat.zero_le _⟩ (fun r_33 u_32 H locs h_34 hq => ?_)
          have er_33 := h_34
          have hq : kAt G A s [(aM, .inr (8, [.ref aNw, .ref rM_kept, .ref rM_isKept, .ref rM_refused, .int M_at, .int M_fault, .ref rM_values, .int M_valueMany, .ref rM_signs, .int M_signMany, .long M_tells, .int M_way, .int M_wish, .long M_moreTick, .long M_moreForce, .int M_runTurns, .long M_runFirst, .long M_runLast, .ref rM_was, .long M_peak, .long M_beside, .int M_besideAt])), (aNw, .inl (cNw, 139, .inr (.inl fNw)))] H locs := hq
          refine lv_i2l hx hb dX8_digest_62 rfl ?_
          refine lv_ladd hx hb dX8_digest_63 ?_
          refine lv_topl (fun x1_35 ex1_35 => ?_)
          refine lv_lstore_n (lv' := [(1, .long x1_35), (3, .int i), (0, .ref aM)]) hx hb dX8_digest_64 rfl hl (by decide) rfl (fun ls hl => ?_)
          refine lv_iinc (v := i + 1) (lv' := [(3, .int (i + 1)), (1, .long x1_35), (0, .ref aM)]) hx hb dX8_digest_65 hl (k := 1) rfl rfl (by decide) rfl (fun ls hl => ?_)
          refine lv_goto (tgt := 44) hx hb dX8_digest_68 (by decide) ?_
          exact ih44 (i + 1) x1_35 _ _ _ ⟨(hrel44.trans ((congrArg (fun (r_9 : Int32) => ((if r_9 ≤ i then (
    (i, h))
    else (
    let r_13 : Int32 := fX8_charAt i fNw
    let x1_15 : Int64 := (31 * h) + r_13.toInt64
    lpX8_digest_44 fNw N44 (i + 1) x1_15)) : Int32 × Int64)) er_9.symm).trans ((if_neg c_11).trans ((congrArg (fun (r_33 : Int32) => ((let x1_15 : Int64 := (31 * h) + r_33.toInt64
    lpX8_digest_44 fNw N44 (i + 1) x1_15) : Int32 × Int64)) er_33.symm).trans ((congrArg (fun (x1_35 : Int64) => ((lpX8_digest_44 fNw N44 (i + 1) x1_35) : Int32 × Int64)) ex1_35.symm)))))), (by have := kk_inc (x := i) (by omega); omega), (by have := kk_inc (x := i) (by omega); omega), (by have := kk_inc (x := i) (by omega); omega), lv_sub hl [0, 1, 2] rfl, hq⟩
    · skip
      have hi := kk_nle (k := 8) rfl c_1
      refine lv_ldc2 hx hb hown lk1_ dX8_digest_12 ?_
      refine lv_lload_n hx hb dX8_digest_15 rfl (lv_at hl 1 rfl) ?_
      refine lv_lmul hx hb dX8_digest_16 ?_
      refine lv_aload_n hx hb dX8_digest_17 rfl (lv_at hl 2 rfl) ?_
      refine lv_iload_n hx hb dX8_digest_18 rfl (lv_at hl 0 rfl) ?_
      refine kk_Vl (As := [.int i]) (rest := [.long (31 * h)]) (wr := []) ⟨hx, hb, hml, hown, hts⟩ (c_X8_of l G aM aNw rM_kept rM_isKept rM_refused rM_values rM_signs rM_was cNw i M_at M_fault M_valueMany M_signMany M_tells M_way M_wish M_moreTick M_moreForce M_runTurns M_runFirst M_runLast M_peak M_beside M_besideAt fNw i0 hi) (kk_cwV 1 hts hsb wd_163 wd_164 wd_165 wd_5 wd_166 rfl rfl hd_X8_of ⟨Nat.le_of_ble_eq_true rfl, Nat.le_of_ble_eq_true rfl⟩) hA hK hq [0, 1] [] [0] rfl rfl rfl (by decide) (by decide) (by decide) 0 8 rfl rfl rfl rfl hl.1 rfl (Nat.le_of_ble_eq_true rfl) dX8_digest_19 ⟨Nat.zero_le _, Nat.zero_le _⟩ (fun r_37 u_36 H locs h_38 hq => ?_)
      have er_37 := h_38
      have hq : kAt G A s [(aM, .inr (8, [.ref aNw, .ref rM_kept, .ref rM_isKept, .ref rM_refused, .int M_at, .int M_fault, .ref rM_values, .int M_valueMany, .ref rM_signs, .int M_signMany, .long M_tells, .int M_way, .int M_wish, .long M_moreTick, .long M_moreForce, .int M_runTurns, .long M_runFirst, .long M_runLast, .ref rM_was, .long M_peak, .long M_beside, .int M_besideAt])), (aNw, .inl (cNw, 139, .inr (.inl fNw)))] H locs := hq
      refine lv_ladd hx hb dX8_digest_22 ?_
      refine lv_topl (fun x1_39 ex1_39 => ?_)
      refine lv_lstore_n (lv' := [(1, .long x1_39), (3, .int i), (0, .ref aM)]) hx hb dX8_digest_23 rfl hl (by decide) rfl (fun ls hl => ?_)
      refine lv_iinc (v := i + 1) (lv' := [(3, .int (i + 1)), (1, .long x1_39), (0, .ref aM)]) hx hb dX8_digest_24 hl (k := 1) rfl rfl (by decide) rfl (fun ls hl => ?_)
      refine lv_goto (tgt := 6) hx hb dX8_digest_27 (by decide) ?_
      exact ih6 (i + 1) x1_39 _ _ _ ⟨(hrel6.trans ((if_neg c_1).trans ((congrArg (fun (r_37 : Int64) => ((let x1_5 : Int64 := (31 * h) + r_37
    lpX8_digest_6 fNw N6 (i + 1) x1_5) : Int32 × Int64)) er_37.symm).trans ((congrArg (fun (x1_39 : Int64) => ((lpX8_digest_6 fNw N6 (i + 1) x1_39) : Int32 × Int64)) ex1_39.symm))))), (by have := kk_inc (x := i) (by omega); omega), (by have := kk_inc (x := i) (by omega); omega), (by have := kk_inc (x := i) (by omega); omega), lv_sub hl [0, 1, 2] rfl, hq⟩

theorem hd_X8_reads : yX8_reads.cls = RX8 ∧ yX8_reads.cls ≠ "java/lang/invoke/MethodHandle" ∧ yX8_reads.cls ≠ "java/lang/invoke/VarHandle" ∧ (parseMethodDescriptor yX8_reads.desc).map (fun d => d.parameters.length) = some 0 := by decide +kernel
def fX8_fault (fNw : Nat → Int64) (fVs : Nat → Int64) (fSg : Nat → Int32) : Int32 × Int32 × Int32 × Int32 × Int32 × Int64 × (Nat → Int64) × (Nat → Int32) :=
  let r_2 : Int32 := (fX8_reads fNw fVs fSg).1
  let u_1 : Int32 × Int32 × Int32 × Int32 × Int64 × (Nat → Int64) × (Nat → Int32) := (fX8_reads fNw fVs fSg).2
  (u_1.2.1, u_1.1, u_1.2.1, u_1.2.2.1, u_1.2.2.2.1, u_1.2.2.2.2.1, u_1.2.2.2.2.2.1, u_1.2.2.2.2.2.2)

set_option maxHeartbeats 4000000 in
set_option maxRecDepth 100000 in
theorem c_X8_fault (l : Launch) (G : va_G) (aM aNw aVs aSg rM_kept rM_isKept rM_refused rM_was : Nat) (cNw cVs cSg : ClassId) (M_at : Int32) (M_fault : Int32) (M_valueMany : Int32) (M_signMany : Int32) (M_tells : Int64) (M_way : Int32) (M_wish : Int32) (M_moreTick : Int64) (M_moreForce : Int64) (M_runTurns : Int32) (M_runFirst : Int64) (M_runLast : Int64) (M_peak : Int64) (M_beside : Int64) (M_besideAt : Int32) (fNw : Nat → Int64) (fVs : Nat → Int64) (fSg : Nat → Int32) (l0 : 0 ≤ (fNw 61).toInt32.toInt) (l1 : (fNw 61).toInt32.toInt ≤ 60) : kCi l yX8_fault (Cond.code yX8_fault cX8_fault 2 (some .int) :: wsL_law) ({ frames := 3, cells := 0, slots := 0, locals := 72 }) G [(cNw, .long), (cVs, .long), (cSg, .int)] [.ref aM] [(aM, .inr (8, [.ref aNw, .ref rM_kept, .ref rM_isKept, .ref rM_refused, .int M_at, .int M_fault, .ref aVs, .int M_valueMany, .ref aSg, .int M_signMany, .long M_tells, .int M_way, .int M_wish, .long M_moreTick, .long M_moreForce, .int M_runTurns, .long M_runFirst, .long M_runLast, .ref rM_was, .long M_peak, .long M_beside, .int M_besideAt])), (aNw, .inl (cNw, 139, .inr (.inl fNw))), (aVs, .inl (cVs, 64, .inr (.inl fVs))), (aSg, .inl (cSg, 128, .inl fSg))] (fun (r : Int32) (u : Int32 × Int32 × Int32 × Int32 × Int64 × (Nat → Int64) × (Nat → Int32)) => r = (fX8_fault fNw fVs fSg).1 ∧ u = (fX8_fault fNw fVs fSg).2) (fun (u : Int32 × Int32 × Int32 × Int32 × Int64 × (Nat → Int64) × (Nat → Int32)) => [(aM, .inr (8, [.ref aNw, .ref rM_kept, .ref rM_isKept, .ref rM_refused, .int u.1, .int u.2.1, .ref aVs, .int u.2.2.1, .ref aSg, .int u.2.2.2.1, .long u.2.2.2.2.1, .int M_way, .int M_wish, .long M_moreTick, .long M_moreForce, .int M_runTurns, .long M_runFirst, .long M_runLast, .ref rM_was, .long M_peak, .long M_beside, .int M_besideAt])), (aNw, .inl (cNw, 139, .inr (.inl fNw))), (aVs, .inl (cVs, 64, .inr (.inl u.2.2.2.2.2.1))), (aSg, .inl (cSg, 128, .inl u.2.2.2.2.2.2))]) := by
  intro sz
  refine Met.ofW (cc := cX8_fault) (maxL := 2) (ret := (some .int)) (by decide) rfl ?_
  intro p e s m args below meth c s₁ B hml hv
  obtain ⟨rfl, hv⟩ := hv
  obtain ⟨rfl, hK, hq, hA⟩ := kk_begin hv
  have hx := B.exec
  have hb := B.bytes
  have hr := B.returns
  have hts := atoms_spec (ws := (Cond.code yX8_fault cX8_fault 2 (some .int) :: wsL_law)) B.pre
  have hown : s.vm.findClass RX8 = some m.cls := findClass_of_methodNamed B.named
  have hlocks := B.notSynchronized
  have hsb : ∀ w ∈ wsL_law, w ∈ (Cond.code yX8_fault cX8_fault 2 (some .int) :: wsL_law) := fun _ h => List.mem_cons_of_mem _ h
  generalize va_A [(aM, .inr (8, [.ref aNw, .ref rM_kept, .ref rM_isKept, .ref rM_refused, .int M_at, .int M_fault, .ref aVs, .int M_valueMany, .ref aSg, .int M_signMany, .long M_tells, .int M_way, .int M_wish, .long M_moreTick, .long M_moreForce, .int M_runTurns, .long M_runFirst, .long M_runLast, .ref rM_was, .long M_peak, .long M_beside, .int M_besideAt])), (aNw, .inl (cNw, 139, .inr (.inl fNw))), (aVs, .inl (cVs, 64, .inr (.inl fVs))), (aSg, .inl (cSg, 128, .inl fSg))] s.heap.size = A at hq hA ⊢
  have iX8 : ∀ w ∈ u_ws RX8 TX8 22, w ∈ (Cond.code yX8_fault cX8_fault 2 (some .int) :: wsL_law) := fun w h => hsb w (bin_X8 w h)
  have lk0_ := hts _ (hsb _ wd_286)
  have hl := lv_entry ([.ref aM]) (n := 2) (Nat.le_of_ble_eq_true rfl)
  rw [lg_entry_eq]
  generalize (lg_sl ([.ref aM]) ++ List.replicate (2 - (lg_sl ([.ref aM])).length) Slot.unset).toArray = ls at hl ⊢
  have hl : lv_has ls 2 [(0, .ref aM)] := hl
  refine lv_aload_n hx hb dX8_fault_0 rfl (lv_at hl 0 rfl) ?_
  refine kk_Vi (As := []) (rest := []) (wr := []) ⟨hx, hb, hml, hown, hts⟩ (c_X8_reads l G aM aNw aVs aSg rM_kept rM_isKept rM_refused rM_was cNw cVs cSg M_at M_fault M_valueMany M_signMany M_tells M_way M_wish M_moreTick M_moreForce M_runTurns M_runFirst M_runLast M_peak M_beside M_besideAt fNw fVs fSg (by assumption) (by assumption)) (kk_cwV 0 hts hsb wd_287 wd_288 wd_289 wd_5 wd_290 rfl rfl hd_X8_reads ⟨Nat.le_of_ble_eq_true rfl, Nat.le_of_ble_eq_true rfl⟩) hA hK hq [0, 1, 2, 3] [] [0, 1, 2] rfl rfl rfl (by decide) (by decide) (by decide) 0 8 rfl rfl rfl rfl hl.1 rfl (Nat.le_of_ble_eq_true rfl) dX8_fault_1 ⟨Nat.zero_le _, Nat.zero_le _⟩ (fun r_2 u_1 H locs h_3 hq => ?_)
  obtain ⟨er_2, eu_1, zr_2⟩ := h_3
  have hq : kAt G A s [(aM, .inr (8, [.ref aNw, .ref rM_kept, .ref rM_isKept, .ref rM_refused, .int u_1.1, .int u_1.2.1, .ref aVs, .int u_1.2.2.1, .ref aSg, .int u_1.2.2.2.1, .long u_1.2.2.2.2.1, .int M_way, .int M_wish, .long M_moreTick, .long M_moreForce, .int M_runTurns, .long M_runFirst, .long M_runLast, .ref rM_was, .long M_peak, .long M_beside, .int M_besideAt])), (aNw, .inl (cNw, 139, .inr (.inl fNw))), (aVs, .inl (cVs, 64, .inr (.inl u_1.2.2.2.2.2.1))), (aSg, .inl (cSg, 128, .inl u_1.2.2.2.2.2.2))] H locs := hq
  refine lv_istore_n (lv' := [(1, .int r_2), (0, .ref aM)]) hx hb dX8_fault_4 rfl hl (by decide) rfl (fun ls hl => ?_)
  refine lv_aload_n hx hb dX8_fault_5 rfl (lv_at hl 1 rfl) ?_
  refine kk_get (ci := 8) (v := .int u_1.2.1) (C := RX8) (T := TX8) (N := 22) hx hb hts iX8 hown hK hq 0 rfl rfl 5 (by decide) lk0_ rfl dX8_fault_6 ?_
  have hf : ((u_1.2.1, u_1.1, u_1.2.1, u_1.2.2.1, u_1.2.2.2.1, u_1.2.2.2.2.1, u_1.2.2.2.2.2.1, u_1.2.2.2.2.2.2) : Int32 × Int32 × Int32 × Int32 × Int32 × Int64 × (Nat → Int64) × (Nat → Int32)) = fX8_fault fNw fVs fSg := by
    exact ((congrArg (fun (r_2 : Int32) => ((let u_1 : Int32 × Int32 × Int32 × Int32 × Int64 × (Nat → Int64) × (Nat → Int32) := (fX8_reads fNw fVs fSg).2
  (u_1.2.1, u_1.1, u_1.2.1, u_1.2.2.1, u_1.2.2.2.1, u_1.2.2.2.2.1, u_1.2.2.2.2.2.1, u_1.2.2.2.2.2.2)) : Int32 × Int32 × Int32 × Int32 × Int32 × Int64 × (Nat → Int64) × (Nat → Int32))) er_2.symm).trans ((congrArg (fun (u_1 : Int32 × Int32 × Int32 × Int32 × Int64 × (Nat → Int64) × (Nat → Int32)) => (((u_1.2.1, u_1.1, u_1.2.1, u_1.2.2.1, u_1.2.2.2.1, u_1.2.2.2.2.1, u_1.2.2.2.2.2.1, u_1.2.2.2.2.2.2)) : Int32 × Int32 × Int32 × Int32 × Int32 × Int64 × (Nat → Int64) × (Nat → Int32))) eu_1.symm))).symm
  have hf1 := congrArg Prod.fst hf
  have hf2 := congrArg Prod.snd hf
  exact kk_ei hx hb hr hlocks hK hq [0, 1, 2, 3] (u_1.1, u_1.2.1, u_1.2.2.1, u_1.2.2.2.1, u_1.2.2.2.2.1, u_1.2.2.2.2.2.1, u_1.2.2.2.2.2.2) rfl (by decide) dX8_fault_9 ⟨hf1, hf2⟩
theorem jl_ngt {x y : Int64} {k : Int} (hk : y.toInt = k) (h : ¬ y < x) : x.toInt ≤ k := by
  rw [jl_lt] at h; omega
def fX8_wished (M_at : Int32) (M_fault : Int32) (M_valueMany : Int32) (M_signMany : Int32) (M_tells : Int64) (M_way : Int32) (M_wish : Int32) (fNw : Nat → Int64) (fVs : Nat → Int64) (fSg : Nat → Int32) : Int64 × Int32 × Int32 × Int32 × Int32 × Int64 × (Nat → Int64) × (Nat → Int32) :=
  if M_way = 1 then (
    (M_wish.toInt64, M_at, M_fault, M_valueMany, M_signMany, M_tells, fVs, fSg))
  else (
    if M_way = 2 then (
      let r_10 : Int64 := fX8_size (fNw 0)
      if r_10 < 50000 * M_wish.toInt64 then (
        (9, M_at, M_fault, M_valueMany, M_signMany, M_tells, fVs, fSg))
      else (
        (0, M_at, M_fault, M_valueMany, M_signMany, M_tells, fVs, fSg)))
    else (
      let r_4 : Int32 := (fX8_reads fNw fVs fSg).1
      let u_3 : Int32 × Int32 × Int32 × Int32 × Int64 × (Nat → Int64) × (Nat → Int32) := (fX8_reads fNw fVs fSg).2
      if r_4 = 0 then (
        (fNw 2, u_3.1, u_3.2.1, u_3.2.2.1, u_3.2.2.2.1, u_3.2.2.2.2.1, u_3.2.2.2.2.2.1, u_3.2.2.2.2.2.2))
      else (
        if u_3.2.2.2.2.1 < 0 then (
          (0, u_3.1, u_3.2.1, u_3.2.2.1, u_3.2.2.2.1, u_3.2.2.2.2.1, u_3.2.2.2.2.2.1, u_3.2.2.2.2.2.2))
        else (
          if 9 < u_3.2.2.2.2.1 then (
            (9, u_3.1, u_3.2.1, u_3.2.2.1, u_3.2.2.2.1, u_3.2.2.2.2.1, u_3.2.2.2.2.2.1, u_3.2.2.2.2.2.2))
          else (
            (u_3.2.2.2.2.1, u_3.1, u_3.2.1, u_3.2.2.1, u_3.2.2.2.1, u_3.2.2.2.2.1, u_3.2.2.2.2.2.1, u_3.2.2.2.2.2.2))))))

set_option maxHeartbeats 4000000 in
set_option maxRecDepth 100000 in
theorem c_X8_wished (l : Launch) (G : va_G) (aM aNw aVs aSg rM_kept rM_isKept rM_refused rM_was : Nat) (cNw cVs cSg : ClassId) (M_at : Int32) (M_fault : Int32) (M_valueMany : Int32) (M_signMany : Int32) (M_tells : Int64) (M_way : Int32) (M_wish : Int32) (M_moreTick : Int64) (M_moreForce : Int64) (M_runTurns : Int32) (M_runFirst : Int64) (M_runLast : Int64) (M_peak : Int64) (M_beside : Int64) (M_besideAt : Int32) (fNw : Nat → Int64) (fVs : Nat → Int64) (fSg : Nat → Int32) (l0 : 0 ≤ (fNw 61).toInt32.toInt) (l1 : (fNw 61).toInt32.toInt ≤ 60) (hh : 0 ≤ (fNw 2).toInt ∧ (fNw 2).toInt ≤ 9) (wh : M_way = 1 → 0 ≤ M_wish.toInt ∧ M_wish.toInt ≤ 9) : kCl l yX8_wished (Cond.code yX8_wished cX8_wished 1 (some .long) :: wsL_law) ({ frames := 3, cells := 0, slots := 0, locals := 72 }) G [(cNw, .long), (cVs, .long), (cSg, .int)] [.ref aM] [(aM, .inr (8, [.ref aNw, .ref rM_kept, .ref rM_isKept, .ref rM_refused, .int M_at, .int M_fault, .ref aVs, .int M_valueMany, .ref aSg, .int M_signMany, .long M_tells, .int M_way, .int M_wish, .long M_moreTick, .long M_moreForce, .int M_runTurns, .long M_runFirst, .long M_runLast, .ref rM_was, .long M_peak, .long M_beside, .int M_besideAt])), (aNw, .inl (cNw, 139, .inr (.inl fNw))), (aVs, .inl (cVs, 64, .inr (.inl fVs))), (aSg, .inl (cSg, 128, .inl fSg))] (fun (r : Int64) (u : Int32 × Int32 × Int32 × Int32 × Int64 × (Nat → Int64) × (Nat → Int32)) => r = (fX8_wished M_at M_fault M_valueMany M_signMany M_tells M_way M_wish fNw fVs fSg).1 ∧ u = (fX8_wished M_at M_fault M_valueMany M_signMany M_tells M_way M_wish fNw fVs fSg).2 ∧ (0 ≤ (r : Int64).toInt) ∧ ((r : Int64).toInt ≤ 9)) (fun (u : Int32 × Int32 × Int32 × Int32 × Int64 × (Nat → Int64) × (Nat → Int32)) => [(aM, .inr (8, [.ref aNw, .ref rM_kept, .ref rM_isKept, .ref rM_refused, .int u.1, .int u.2.1, .ref aVs, .int u.2.2.1, .ref aSg, .int u.2.2.2.1, .long u.2.2.2.2.1, .int M_way, .int M_wish, .long M_moreTick, .long M_moreForce, .int M_runTurns, .long M_runFirst, .long M_runLast, .ref rM_was, .long M_peak, .long M_beside, .int M_besideAt])), (aNw, .inl (cNw, 139, .inr (.inl fNw))), (aVs, .inl (cVs, 64, .inr (.inl u.2.2.2.2.2.1))), (aSg, .inl (cSg, 128, .inl u.2.2.2.2.2.2))]) := by
  intro sz
  refine Met.ofW (cc := cX8_wished) (maxL := 1) (ret := (some .long)) (by decide) rfl ?_
  intro p e s m args below meth c s₁ B hml hv
  obtain ⟨rfl, hv⟩ := hv
  obtain ⟨rfl, hK, hq, hA⟩ := kk_begin hv
  have hx := B.exec
  have hb := B.bytes
  have hr := B.returns
  have hts := atoms_spec (ws := (Cond.code yX8_wished cX8_wished 1 (some .long) :: wsL_law)) B.pre
  have hown : s.vm.findClass RX8 = some m.cls := findClass_of_methodNamed B.named
  have hlocks := B.notSynchronized
  have hsb : ∀ w ∈ wsL_law, w ∈ (Cond.code yX8_wished cX8_wished 1 (some .long) :: wsL_law) := fun _ h => List.mem_cons_of_mem _ h
  generalize va_A [(aM, .inr (8, [.ref aNw, .ref rM_kept, .ref rM_isKept, .ref rM_refused, .int M_at, .int M_fault, .ref aVs, .int M_valueMany, .ref aSg, .int M_signMany, .long M_tells, .int M_way, .int M_wish, .long M_moreTick, .long M_moreForce, .int M_runTurns, .long M_runFirst, .long M_runLast, .ref rM_was, .long M_peak, .long M_beside, .int M_besideAt])), (aNw, .inl (cNw, 139, .inr (.inl fNw))), (aVs, .inl (cVs, 64, .inr (.inl fVs))), (aSg, .inl (cSg, 128, .inl fSg))] s.heap.size = A at hq hA ⊢
  have iX8 : ∀ w ∈ u_ws RX8 TX8 22, w ∈ (Cond.code yX8_wished cX8_wished 1 (some .long) :: wsL_law) := fun w h => hsb w (bin_X8 w h)
  have lk0_ := hts _ (hsb _ wd_553)
  have lk1_ := hts _ (hsb _ wd_296)
  have lk2_ := hts _ (hsb _ wd_152)
  have lk3_ := hts _ (hsb _ wd_117)
  have lk4_ := hts _ (hsb _ wd_555)
  have lk5_ := hts _ (hsb _ wd_554)
  have hl := lv_entry ([.ref aM]) (n := 1) (Nat.le_of_ble_eq_true rfl)
  rw [lg_entry_eq]
  generalize (lg_sl ([.ref aM]) ++ List.replicate (1 - (lg_sl ([.ref aM])).length) Slot.unset).toArray = ls at hl ⊢
  have hl : lv_has ls 1 [(0, .ref aM)] := hl
  refine lv_aload_n hx hb dX8_wished_0 rfl (lv_at hl 0 rfl) ?_
  refine kk_get (ci := 8) (v := .int M_way) (C := RX8) (T := TX8) (N := 22) hx hb hts iX8 hown hK hq 0 rfl rfl 11 (by decide) lk0_ rfl dX8_wished_1 ?_
  refine lv_iconst (v := 1) hx hb dX8_wished_4 (by decide) ?_
  refine lv_icmp_ne (tgt := 14) hx hb dX8_wished_5 (by decide) (fun c_1 => ?_) (fun c_1 => ?_)
  · skip
    refine lv_aload_n hx hb dX8_wished_14 rfl (lv_at hl 0 rfl) ?_
    refine kk_get (ci := 8) (v := .int M_way) (C := RX8) (T := TX8) (N := 22) hx hb hts iX8 hown hK hq 0 rfl rfl 11 (by decide) lk0_ rfl dX8_wished_15 ?_
    refine lv_iconst (v := 2) hx hb dX8_wished_18 (by decide) ?_
    refine lv_icmp_ne (tgt := 52) hx hb dX8_wished_19 (by decide) (fun c_2 => ?_) (fun c_2 => ?_)
    · skip
      refine lv_aload_n hx hb dX8_wished_52 rfl (lv_at hl 0 rfl) ?_
      refine kk_Vi (As := []) (rest := []) (wr := []) ⟨hx, hb, hml, hown, hts⟩ (c_X8_reads l G aM aNw aVs aSg rM_kept rM_isKept rM_refused rM_was cNw cVs cSg M_at M_fault M_valueMany M_signMany M_tells M_way M_wish M_moreTick M_moreForce M_runTurns M_runFirst M_runLast M_peak M_beside M_besideAt fNw fVs fSg (by assumption) (by assumption)) (kk_cwV 0 hts hsb wd_287 wd_288 wd_289 wd_5 wd_290 rfl rfl hd_X8_reads ⟨Nat.le_of_ble_eq_true rfl, Nat.le_of_ble_eq_true rfl⟩) hA hK hq [0, 1, 2, 3] [] [0, 1, 2] rfl rfl rfl (by decide) (by decide) (by decide) 0 8 rfl rfl rfl rfl hl.1 rfl (Nat.le_of_ble_eq_true rfl) dX8_wished_53 ⟨Nat.zero_le _, Nat.zero_le _⟩ (fun r_4 u_3 H locs h_5 hq => ?_)
      obtain ⟨er_4, eu_3, zr_4⟩ := h_5
      have hq : kAt G A s [(aM, .inr (8, [.ref aNw, .ref rM_kept, .ref rM_isKept, .ref rM_refused, .int u_3.1, .int u_3.2.1, .ref aVs, .int u_3.2.2.1, .ref aSg, .int u_3.2.2.2.1, .long u_3.2.2.2.2.1, .int M_way, .int M_wish, .long M_moreTick, .long M_moreForce, .int M_runTurns, .long M_runFirst, .long M_runLast, .ref rM_was, .long M_peak, .long M_beside, .int M_besideAt])), (aNw, .inl (cNw, 139, .inr (.inl fNw))), (aVs, .inl (cVs, 64, .inr (.inl u_3.2.2.2.2.2.1))), (aSg, .inl (cSg, 128, .inl u_3.2.2.2.2.2.2))] H locs := hq
      refine lv_if_ne (tgt := 66) hx hb dX8_wished_56 (by decide) (fun c_6 => ?_) (fun c_6 => ?_)
      · skip
        refine lv_aload_n hx hb dX8_wished_66 rfl (lv_at hl 0 rfl) ?_
        refine kk_get (ci := 8) (v := .long u_3.2.2.2.2.1) (C := RX8) (T := TX8) (N := 22) hx hb hts iX8 hown hK hq 0 rfl rfl 10 (by decide) lk1_ rfl dX8_wished_67 ?_
        refine lv_lconst (v := 0) hx hb dX8_wished_70 (by decide) ?_
        refine kk_lc_ge (tgt := 79) hx hb dX8_wished_71 dX8_wished_72 (by decide) (fun c_7 => ?_) (fun c_7 => ?_)
        · skip
          have ht0 := jl_nlt (k := 0) rfl c_7
          refine lv_aload_n hx hb dX8_wished_79 rfl (lv_at hl 0 rfl) ?_
          refine kk_get (ci := 8) (v := .long u_3.2.2.2.2.1) (C := RX8) (T := TX8) (N := 22) hx hb hts iX8 hown hK hq 0 rfl rfl 10 (by decide) lk1_ rfl dX8_wished_80 ?_
          refine lv_ldc2 hx hb hown lk2_ dX8_wished_83 ?_
          refine kk_lc_le (tgt := 96) hx hb dX8_wished_86 dX8_wished_87 (by decide) (fun c_8 => ?_) (fun c_8 => ?_)
          · skip
            have ht9 := jl_ngt (k := 9) rfl c_8
            refine lv_aload_n hx hb dX8_wished_96 rfl (lv_at hl 0 rfl) ?_
            refine kk_get (ci := 8) (v := .long u_3.2.2.2.2.1) (C := RX8) (T := TX8) (N := 22) hx hb hts iX8 hown hK hq 0 rfl rfl 10 (by decide) lk1_ rfl dX8_wished_97 ?_
            have hf : ((u_3.2.2.2.2.1, u_3.1, u_3.2.1, u_3.2.2.1, u_3.2.2.2.1, u_3.2.2.2.2.1, u_3.2.2.2.2.2.1, u_3.2.2.2.2.2.2) : Int64 × Int32 × Int32 × Int32 × Int32 × Int64 × (Nat → Int64) × (Nat → Int32)) = fX8_wished M_at M_fault M_valueMany M_signMany M_tells M_way M_wish fNw fVs fSg := by
              exact ((if_neg c_1).trans ((if_neg c_2).trans ((congrArg (fun (r_4 : Int32) => ((let u_3 : Int32 × Int32 × Int32 × Int32 × Int64 × (Nat → Int64) × (Nat → Int32) := (fX8_reads fNw fVs fSg).2
  if r_4 = 0 then (
    (fNw 2, u_3.1, u_3.2.1, u_3.2.2.1, u_3.2.2.2.1, u_3.2.2.2.2.1, u_3.2.2.2.2.2.1, u_3.2.2.2.2.2.2))
  else (
    if u_3.2.2.2.2.1 < 0 then (
      (0, u_3.1, u_3.2.1, u_3.2.2.1, u_3.2.2.2.1, u_3.2.2.2.2.1, u_3.2.2.2.2.2.1, u_3.2.2.2.2.2.2))
    else (
      if 9 < u_3.2.2.2.2.1 then (
        (9, u_3.1, u_3.2.1, u_3.2.2.1, u_3.2.2.2.1, u_3.2.2.2.2.1, u_3.2.2.2.2.2.1, u_3.2.2.2.2.2.2))
      else (
        (u_3.2.2.2.2.1, u_3.1, u_3.2.1, u_3.2.2.1, u_3.2.2.2.1, u_3.2.2.2.2.1, u_3.2.2.2.2.2.1, u_3.2.2.2.2.2.2))))) : Int64 × Int32 × Int32 × Int32 × Int32 × Int64 × (Nat → Int64) × (Nat → Int32))) er_4.symm).trans ((congrArg (fun (u_3 : Int32 × Int32 × Int32 × Int32 × Int64 × (Nat → Int64) × (Nat → Int32)) => ((if r_4 = 0 then (
    (fNw 2, u_3.1, u_3.2.1, u_3.2.2.1, u_3.2.2.2.1, u_3.2.2.2.2.1, u_3.2.2.2.2.2.1, u_3.2.2.2.2.2.2))
  else (
    if u_3.2.2.2.2.1 < 0 then (
      (0, u_3.1, u_3.2.1, u_3.2.2.1, u_3.2.2.2.1, u_3.2.2.2.2.1, u_3.2.2.2.2.2.1, u_3.2.2.2.2.2.2))
    else (
      if 9 < u_3.2.2.2.2.1 then (
        (9, u_3.1, u_3.2.1, u_3.2.2.1, u_3.2.2.2.1, u_3.2.2.2.2.1, u_3.2.2.2.2.2.1, u_3.2.2.2.2.2.2))
      else (
        (u_3.2.2.2.2.1, u_3.1, u_3.2.1, u_3.2.2.1, u_3.2.2.2.1, u_3.2.2.2.2.1, u_3.2.2.2.2.2.1, u_3.2.2.2.2.2.2))))) : Int64 × Int32 × Int32 × Int32 × Int32 × Int64 × (Nat → Int64) × (Nat → Int32))) eu_3.symm).trans ((if_neg c_6).trans ((if_neg c_7).trans ((if_neg c_8)))))))).symm
            have hf1 := congrArg Prod.fst hf
            have hf2 := congrArg Prod.snd hf
            have en_0 : 0 ≤ (u_3.2.2.2.2.1 : Int64).toInt := by first | exact hh.1 | decide | (rw [Int32.toInt_toInt64]; exact (wh (by assumption)).1) | omega
            have en_1 : (u_3.2.2.2.2.1 : Int64).toInt ≤ 9 := by first | exact hh.2 | decide | (rw [Int32.toInt_toInt64]; exact (wh (by assumption)).2) | omega
            exact kk_el hx hb hr hlocks hK hq [0, 1, 2, 3] (u_3.1, u_3.2.1, u_3.2.2.1, u_3.2.2.2.1, u_3.2.2.2.2.1, u_3.2.2.2.2.2.1, u_3.2.2.2.2.2.2) rfl (by decide) dX8_wished_100 ⟨hf1, hf2, en_0, en_1⟩
          · skip
            refine lv_ldc2 hx hb hown lk2_ dX8_wished_90 ?_
            refine lv_goto (tgt := 100) hx hb dX8_wished_93 (by decide) ?_
            have hf : ((9, u_3.1, u_3.2.1, u_3.2.2.1, u_3.2.2.2.1, u_3.2.2.2.2.1, u_3.2.2.2.2.2.1, u_3.2.2.2.2.2.2) : Int64 × Int32 × Int32 × Int32 × Int32 × Int64 × (Nat → Int64) × (Nat → Int32)) = fX8_wished M_at M_fault M_valueMany M_signMany M_tells M_way M_wish fNw fVs fSg := by
              exact ((if_neg c_1).trans ((if_neg c_2).trans ((congrArg (fun (r_4 : Int32) => ((let u_3 : Int32 × Int32 × Int32 × Int32 × Int64 × (Nat → Int64) × (Nat → Int32) := (fX8_reads fNw fVs fSg).2
  if r_4 = 0 then (
    (fNw 2, u_3.1, u_3.2.1, u_3.2.2.1, u_3.2.2.2.1, u_3.2.2.2.2.1, u_3.2.2.2.2.2.1, u_3.2.2.2.2.2.2))
  else (
    if u_3.2.2.2.2.1 < 0 then (
      (0, u_3.1, u_3.2.1, u_3.2.2.1, u_3.2.2.2.1, u_3.2.2.2.2.1, u_3.2.2.2.2.2.1, u_3.2.2.2.2.2.2))
    else (
      if 9 < u_3.2.2.2.2.1 then (
        (9, u_3.1, u_3.2.1, u_3.2.2.1, u_3.2.2.2.1, u_3.2.2.2.2.1, u_3.2.2.2.2.2.1, u_3.2.2.2.2.2.2))
      else (
        (u_3.2.2.2.2.1, u_3.1, u_3.2.1, u_3.2.2.1, u_3.2.2.2.1, u_3.2.2.2.2.1, u_3.2.2.2.2.2.1, u_3.2.2.2.2.2.2))))) : Int64 × Int32 × Int32 × Int32 × Int32 × Int64 × (Nat → Int64) × (Nat → Int32))) er_4.symm).trans ((congrArg (fun (u_3 : Int32 × Int32 × Int32 × Int32 × Int64 × (Nat → Int64) × (Nat → Int32)) => ((if r_4 = 0 then (
    (fNw 2, u_3.1, u_3.2.1, u_3.2.2.1, u_3.2.2.2.1, u_3.2.2.2.2.1, u_3.2.2.2.2.2.1, u_3.2.2.2.2.2.2))
  else (
    if u_3.2.2.2.2.1 < 0 then (
      (0, u_3.1, u_3.2.1, u_3.2.2.1, u_3.2.2.2.1, u_3.2.2.2.2.1, u_3.2.2.2.2.2.1, u_3.2.2.2.2.2.2))
    else (
      if 9 < u_3.2.2.2.2.1 then (
        (9, u_3.1, u_3.2.1, u_3.2.2.1, u_3.2.2.2.1, u_3.2.2.2.2.1, u_3.2.2.2.2.2.1, u_3.2.2.2.2.2.2))
      else (
        (u_3.2.2.2.2.1, u_3.1, u_3.2.1, u_3.2.2.1, u_3.2.2.2.1, u_3.2.2.2.2.1, u_3.2.2.2.2.2.1, u_3.2.2.2.2.2.2))))) : Int64 × Int32 × Int32 × Int32 × Int32 × Int64 × (Nat → Int64) × (Nat → Int32))) eu_3.symm).trans ((if_neg c_6).trans ((if_neg c_7).trans ((if_pos c_8)))))))).symm
            have hf1 := congrArg Prod.fst hf
            have hf2 := congrArg Prod.snd hf
            have en_0 : 0 ≤ (9 : Int64).toInt := by first | exact hh.1 | decide | (rw [Int32.toInt_toInt64]; exact (wh (by assumption)).1) | omega
            have en_1 : (9 : Int64).toInt ≤ 9 := by first | exact hh.2 | decide | (rw [Int32.toInt_toInt64]; exact (wh (by assumption)).2) | omega
            exact kk_el hx hb hr hlocks hK hq [0, 1, 2, 3] (u_3.1, u_3.2.1, u_3.2.2.1, u_3.2.2.2.1, u_3.2.2.2.2.1, u_3.2.2.2.2.2.1, u_3.2.2.2.2.2.2) rfl (by decide) dX8_wished_100 ⟨hf1, hf2, en_0, en_1⟩
        · skip
          refine lv_lconst (v := 0) hx hb dX8_wished_75 (by decide) ?_
          refine lv_goto (tgt := 100) hx hb dX8_wished_76 (by decide) ?_
          have hf : ((0, u_3.1, u_3.2.1, u_3.2.2.1, u_3.2.2.2.1, u_3.2.2.2.2.1, u_3.2.2.2.2.2.1, u_3.2.2.2.2.2.2) : Int64 × Int32 × Int32 × Int32 × Int32 × Int64 × (Nat → Int64) × (Nat → Int32)) = fX8_wished M_at M_fault M_valueMany M_signMany M_tells M_way M_wish fNw fVs fSg := by
            exact ((if_neg c_1).trans ((if_neg c_2).trans ((congrArg (fun (r_4 : Int32) => ((let u_3 : Int32 × Int32 × Int32 × Int32 × Int64 × (Nat → Int64) × (Nat → Int32) := (fX8_reads fNw fVs fSg).2
  if r_4 = 0 then (
    (fNw 2, u_3.1, u_3.2.1, u_3.2.2.1, u_3.2.2.2.1, u_3.2.2.2.2.1, u_3.2.2.2.2.2.1, u_3.2.2.2.2.2.2))
  else (
    if u_3.2.2.2.2.1 < 0 then (
      (0, u_3.1, u_3.2.1, u_3.2.2.1, u_3.2.2.2.1, u_3.2.2.2.2.1, u_3.2.2.2.2.2.1, u_3.2.2.2.2.2.2))
    else (
      if 9 < u_3.2.2.2.2.1 then (
        (9, u_3.1, u_3.2.1, u_3.2.2.1, u_3.2.2.2.1, u_3.2.2.2.2.1, u_3.2.2.2.2.2.1, u_3.2.2.2.2.2.2))
      else (
        (u_3.2.2.2.2.1, u_3.1, u_3.2.1, u_3.2.2.1, u_3.2.2.2.1, u_3.2.2.2.2.1, u_3.2.2.2.2.2.1, u_3.2.2.2.2.2.2))))) : Int64 × Int32 × Int32 × Int32 × Int32 × Int64 × (Nat → Int64) × (Nat → Int32))) er_4.symm).trans ((congrArg (fun (u_3 : Int32 × Int32 × Int32 × Int32 × Int64 × (Nat → Int64) × (Nat → Int32)) => ((if r_4 = 0 then (
    (fNw 2, u_3.1, u_3.2.1, u_3.2.2.1, u_3.2.2.2.1, u_3.2.2.2.2.1, u_3.2.2.2.2.2.1, u_3.2.2.2.2.2.2))
  else (
    if u_3.2.2.2.2.1 < 0 then (
      (0, u_3.1, u_3.2.1, u_3.2.2.1, u_3.2.2.2.1, u_3.2.2.2.2.1, u_3.2.2.2.2.2.1, u_3.2.2.2.2.2.2))
    else (
      if 9 < u_3.2.2.2.2.1 then (
        (9, u_3.1, u_3.2.1, u_3.2.2.1, u_3.2.2.2.1, u_3.2.2.2.2.1, u_3.2.2.2.2.2.1, u_3.2.2.2.2.2.2))
      else (
        (u_3.2.2.2.2.1, u_3.1, u_3.2.1, u_3.2.2.1, u_3.2.2.2.1, u_3.2.2.2.2.1, u_3.2.2.2.2.2.1, u_3.2.2.2.2.2.2))))) : Int64 × Int32 × Int32 × Int32 × Int32 × Int64 × (Nat → Int64) × (Nat → Int32))) eu_3.symm).trans ((if_neg c_6).trans ((if_pos c_7))))))).symm
          have hf1 := congrArg Prod.fst hf
          have hf2 := congrArg Prod.snd hf
          have en_0 : 0 ≤ (0 : Int64).toInt := by first | exact hh.1 | decide | (rw [Int32.toInt_toInt64]; exact (wh (by assumption)).1) | omega
          have en_1 : (0 : Int64).toInt ≤ 9 := by first | exact hh.2 | decide | (rw [Int32.toInt_toInt64]; exact (wh (by assumption)).2) | omega
          exact kk_el hx hb hr hlocks hK hq [0, 1, 2, 3] (u_3.1, u_3.2.1, u_3.2.2.1, u_3.2.2.2.1, u_3.2.2.2.2.1, u_3.2.2.2.2.2.1, u_3.2.2.2.2.2.2) rfl (by decide) dX8_wished_100 ⟨hf1, hf2, en_0, en_1⟩
      · skip
        refine lv_aload_n hx hb dX8_wished_59 rfl (lv_at hl 0 rfl) ?_
        refine kk_get (ci := 8) (v := .ref aNw) (C := RX8) (T := TX8) (N := 22) hx hb hts iX8 hown hK hq 0 rfl rfl 0 (by decide) lk3_ rfl dX8_wished_60 ?_
        refine lv_iconst (v := 2) hx hb dX8_wished_63 (by decide) ?_
        refine kk_lald hx hb hK hq 1 0 rfl rfl 2 rfl (by decide) (by decide) dX8_wished_64 ?_
        have hf : ((fNw 2, u_3.1, u_3.2.1, u_3.2.2.1, u_3.2.2.2.1, u_3.2.2.2.2.1, u_3.2.2.2.2.2.1, u_3.2.2.2.2.2.2) : Int64 × Int32 × Int32 × Int32 × Int32 × Int64 × (Nat → Int64) × (Nat → Int32)) = fX8_wished M_at M_fault M_valueMany M_signMany M_tells M_way M_wish fNw fVs fSg := by
          exact ((if_neg c_1).trans ((if_neg c_2).trans ((congrArg (fun (r_4 : Int32) => ((let u_3 : Int32 × Int32 × Int32 × Int32 × Int64 × (Nat → Int64) × (Nat → Int32) := (fX8_reads fNw fVs fSg).2
  if r_4 = 0 then (
    (fNw 2, u_3.1, u_3.2.1, u_3.2.2.1, u_3.2.2.2.1, u_3.2.2.2.2.1, u_3.2.2.2.2.2.1, u_3.2.2.2.2.2.2))
  else (
    if u_3.2.2.2.2.1 < 0 then (
      (0, u_3.1, u_3.2.1, u_3.2.2.1, u_3.2.2.2.1, u_3.2.2.2.2.1, u_3.2.2.2.2.2.1, u_3.2.2.2.2.2.2))
    else (
      if 9 < u_3.2.2.2.2.1 then (
        (9, u_3.1, u_3.2.1, u_3.2.2.1, u_3.2.2.2.1, u_3.2.2.2.2.1, u_3.2.2.2.2.2.1, u_3.2.2.2.2.2.2))
      else (
        (u_3.2.2.2.2.1, u_3.1, u_3.2.1, u_3.2.2.1, u_3.2.2.2.1, u_3.2.2.2.2.1, u_3.2.2.2.2.2.1, u_3.2.2.2.2.2.2))))) : Int64 × Int32 × Int32 × Int32 × Int32 × Int64 × (Nat → Int64) × (Nat → Int32))) er_4.symm).trans ((congrArg (fun (u_3 : Int32 × Int32 × Int32 × Int32 × Int64 × (Nat → Int64) × (Nat → Int32)) => ((if r_4 = 0 then (
    (fNw 2, u_3.1, u_3.2.1, u_3.2.2.1, u_3.2.2.2.1, u_3.2.2.2.2.1, u_3.2.2.2.2.2.1, u_3.2.2.2.2.2.2))
  else (
    if u_3.2.2.2.2.1 < 0 then (
      (0, u_3.1, u_3.2.1, u_3.2.2.1, u_3.2.2.2.1, u_3.2.2.2.2.1, u_3.2.2.2.2.2.1, u_3.2.2.2.2.2.2))
    else (
      if 9 < u_3.2.2.2.2.1 then (
        (9, u_3.1, u_3.2.1, u_3.2.2.1, u_3.2.2.2.1, u_3.2.2.2.2.1, u_3.2.2.2.2.2.1, u_3.2.2.2.2.2.2))
      else (
        (u_3.2.2.2.2.1, u_3.1, u_3.2.1, u_3.2.2.1, u_3.2.2.2.1, u_3.2.2.2.2.1, u_3.2.2.2.2.2.1, u_3.2.2.2.2.2.2))))) : Int64 × Int32 × Int32 × Int32 × Int32 × Int64 × (Nat → Int64) × (Nat → Int32))) eu_3.symm).trans ((if_pos c_6)))))).symm
        have hf1 := congrArg Prod.fst hf
        have hf2 := congrArg Prod.snd hf
        have en_0 : 0 ≤ (fNw 2 : Int64).toInt := by first | exact hh.1 | decide | (rw [Int32.toInt_toInt64]; exact (wh (by assumption)).1) | omega
        have en_1 : (fNw 2 : Int64).toInt ≤ 9 := by first | exact hh.2 | decide | (rw [Int32.toInt_toInt64]; exact (wh (by assumption)).2) | omega
        exact kk_el hx hb hr hlocks hK hq [0, 1, 2, 3] (u_3.1, u_3.2.1, u_3.2.2.1, u_3.2.2.2.1, u_3.2.2.2.2.1, u_3.2.2.2.2.2.1, u_3.2.2.2.2.2.2) rfl (by decide) dX8_wished_65 ⟨hf1, hf2, en_0, en_1⟩
    · skip
      refine lv_aload_n hx hb dX8_wished_22 rfl (lv_at hl 0 rfl) ?_
      refine kk_get (ci := 8) (v := .ref aNw) (C := RX8) (T := TX8) (N := 22) hx hb hts iX8 hown hK hq 0 rfl rfl 0 (by decide) lk3_ rfl dX8_wished_23 ?_
      refine lv_iconst (v := 0) hx hb dX8_wished_26 (by decide) ?_
      refine kk_lald hx hb hK hq 1 0 rfl rfl 0 rfl (by decide) (by decide) dX8_wished_27 ?_
      refine kk_Sl (As := [.long (fNw 0)]) (rest := []) (wr := [(aM, .inr (8, [.ref aNw, .ref rM_kept, .ref rM_isKept, .ref rM_refused, .int M_at, .int M_fault, .ref aVs, .int M_valueMany, .ref aSg, .int M_signMany, .long M_tells, .int M_way, .int M_wish, .long M_moreTick, .long M_moreForce, .int M_runTurns, .long M_runFirst, .long M_runLast, .ref rM_was, .long M_peak, .long M_beside, .int M_besideAt])), (aNw, .inl (cNw, 139, .inr (.inl fNw))), (aVs, .inl (cVs, 64, .inr (.inl fVs))), (aSg, .inl (cSg, 128, .inl fSg))]) ⟨hx, hb, hml, hown, hts⟩ (c_X8_size l G (fNw 0)) (kk_cwS 1 hts hsb wd_401 wd_402 wd_5 wd_403 rfl rfl hd_X8_size ⟨Nat.le_of_ble_eq_true rfl, Nat.le_of_ble_eq_true rfl⟩) hA hK hq [] [0, 1, 2, 3] [] rfl rfl rfl (by decide) (by decide) (by decide) rfl hl.1 rfl (Nat.le_of_ble_eq_true rfl) dX8_wished_28 ⟨Nat.zero_le _, Nat.zero_le _⟩ (fun r_10 u_9 H locs h_11 hq => ?_)
      have er_10 := h_11
      have hq : kAt G A s [(aM, .inr (8, [.ref aNw, .ref rM_kept, .ref rM_isKept, .ref rM_refused, .int M_at, .int M_fault, .ref aVs, .int M_valueMany, .ref aSg, .int M_signMany, .long M_tells, .int M_way, .int M_wish, .long M_moreTick, .long M_moreForce, .int M_runTurns, .long M_runFirst, .long M_runLast, .ref rM_was, .long M_peak, .long M_beside, .int M_besideAt])), (aNw, .inl (cNw, 139, .inr (.inl fNw))), (aVs, .inl (cVs, 64, .inr (.inl fVs))), (aSg, .inl (cSg, 128, .inl fSg))] H locs := hq
      refine lv_ldc2 hx hb hown lk4_ dX8_wished_31 ?_
      refine lv_aload_n hx hb dX8_wished_34 rfl (lv_at hl 0 rfl) ?_
      refine kk_get (ci := 8) (v := .int M_wish) (C := RX8) (T := TX8) (N := 22) hx hb hts iX8 hown hK hq 0 rfl rfl 12 (by decide) lk5_ rfl dX8_wished_35 ?_
      refine lv_i2l hx hb dX8_wished_38 rfl ?_
      refine lv_lmul hx hb dX8_wished_39 ?_
      refine kk_lc_ge (tgt := 50) hx hb dX8_wished_40 dX8_wished_41 (by decide) (fun c_12 => ?_) (fun c_12 => ?_)
      · skip
        refine lv_lconst (v := 0) hx hb dX8_wished_50 (by decide) ?_
        have hf : ((0, M_at, M_fault, M_valueMany, M_signMany, M_tells, fVs, fSg) : Int64 × Int32 × Int32 × Int32 × Int32 × Int64 × (Nat → Int64) × (Nat → Int32)) = fX8_wished M_at M_fault M_valueMany M_signMany M_tells M_way M_wish fNw fVs fSg := by
          exact ((if_neg c_1).trans ((if_pos c_2).trans ((congrArg (fun (r_10 : Int64) => ((if r_10 < 50000 * M_wish.toInt64 then (
    (9, M_at, M_fault, M_valueMany, M_signMany, M_tells, fVs, fSg))
  else (
    (0, M_at, M_fault, M_valueMany, M_signMany, M_tells, fVs, fSg))) : Int64 × Int32 × Int32 × Int32 × Int32 × Int64 × (Nat → Int64) × (Nat → Int32))) er_10.symm).trans ((if_neg c_12))))).symm
        have hf1 := congrArg Prod.fst hf
        have hf2 := congrArg Prod.snd hf
        have en_0 : 0 ≤ (0 : Int64).toInt := by first | exact hh.1 | decide | (rw [Int32.toInt_toInt64]; exact (wh (by assumption)).1) | omega
        have en_1 : (0 : Int64).toInt ≤ 9 := by first | exact hh.2 | decide | (rw [Int32.toInt_toInt64]; exact (wh (by assumption)).2) | omega
        exact kk_el hx hb hr hlocks hK hq [0, 1, 2, 3] (M_at, M_fault, M_valueMany, M_signMany, M_tells, fVs, fSg) rfl (by decide) dX8_wished_51 ⟨hf1, hf2, en_0, en_1⟩
      · skip
        refine lv_ldc2 hx hb hown lk2_ dX8_wished_44 ?_
        refine lv_goto (tgt := 51) hx hb dX8_wished_47 (by decide) ?_
        have hf : ((9, M_at, M_fault, M_valueMany, M_signMany, M_tells, fVs, fSg) : Int64 × Int32 × Int32 × Int32 × Int32 × Int64 × (Nat → Int64) × (Nat → Int32)) = fX8_wished M_at M_fault M_valueMany M_signMany M_tells M_way M_wish fNw fVs fSg := by
          exact ((if_neg c_1).trans ((if_pos c_2).trans ((congrArg (fun (r_10 : Int64) => ((if r_10 < 50000 * M_wish.toInt64 then (
    (9, M_at, M_fault, M_valueMany, M_signMany, M_tells, fVs, fSg))
  else (
    (0, M_at, M_fault, M_valueMany, M_signMany, M_tells, fVs, fSg))) : Int64 × Int32 × Int32 × Int32 × Int32 × Int64 × (Nat → Int64) × (Nat → Int32))) er_10.symm).trans ((if_pos c_12))))).symm
        have hf1 := congrArg Prod.fst hf
        have hf2 := congrArg Prod.snd hf
        have en_0 : 0 ≤ (9 : Int64).toInt := by first | exact hh.1 | decide | (rw [Int32.toInt_toInt64]; exact (wh (by assumption)).1) | omega
        have en_1 : (9 : Int64).toInt ≤ 9 := by first | exact hh.2 | decide | (rw [Int32.toInt_toInt64]; exact (wh (by assumption)).2) | omega
        exact kk_el hx hb hr hlocks hK hq [0, 1, 2, 3] (M_at, M_fault, M_valueMany, M_signMany, M_tells, fVs, fSg) rfl (by decide) dX8_wished_51 ⟨hf1, hf2, en_0, en_1⟩
  · skip
    refine lv_aload_n hx hb dX8_wished_8 rfl (lv_at hl 0 rfl) ?_
    refine kk_get (ci := 8) (v := .int M_wish) (C := RX8) (T := TX8) (N := 22) hx hb hts iX8 hown hK hq 0 rfl rfl 12 (by decide) lk5_ rfl dX8_wished_9 ?_
    refine lv_i2l hx hb dX8_wished_12 rfl ?_
    have hf : ((M_wish.toInt64, M_at, M_fault, M_valueMany, M_signMany, M_tells, fVs, fSg) : Int64 × Int32 × Int32 × Int32 × Int32 × Int64 × (Nat → Int64) × (Nat → Int32)) = fX8_wished M_at M_fault M_valueMany M_signMany M_tells M_way M_wish fNw fVs fSg := by
      exact ((if_pos c_1)).symm
    have hf1 := congrArg Prod.fst hf
    have hf2 := congrArg Prod.snd hf
    have en_0 : 0 ≤ (M_wish.toInt64 : Int64).toInt := by first | exact hh.1 | decide | (rw [Int32.toInt_toInt64]; exact (wh (by assumption)).1) | omega
    have en_1 : (M_wish.toInt64 : Int64).toInt ≤ 9 := by first | exact hh.2 | decide | (rw [Int32.toInt_toInt64]; exact (wh (by assumption)).2) | omega
    exact kk_el hx hb hr hlocks hK hq [0, 1, 2, 3] (M_at, M_fault, M_valueMany, M_signMany, M_tells, fVs, fSg) rfl (by decide) dX8_wished_13 ⟨hf1, hf2, en_0, en_1⟩

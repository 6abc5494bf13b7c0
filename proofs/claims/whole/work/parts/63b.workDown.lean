theorem hd_X8_rank : yX8_rank.cls ≠ "java/lang/invoke/MethodHandle" ∧ yX8_rank.cls ≠ "java/lang/invoke/VarHandle" ∧ (parseMethodDescriptor yX8_rank.desc).map (fun d => d.parameters.length) = some 1 := by decide +kernel
theorem hd_X8_workOut : yX8_workOut.cls = RX8 ∧ yX8_workOut.cls ≠ "java/lang/invoke/MethodHandle" ∧ yX8_workOut.cls ≠ "java/lang/invoke/VarHandle" ∧ (parseMethodDescriptor yX8_workOut.desc).map (fun d => d.parameters.length) = some 0 := by decide +kernel
def lpX8_workDown_0 (p1 : Int32) (fSg : Nat → Int32) : Nat → Int32 → Int32 → (Nat → Int64) → Int32 × Int32 × (Nat → Int64)
  | 0, _, _, _ => (0, 0, fun _ => 0)
  | N + 1, sm, vq, vf =>
    if sm ≤ 0 then (
    (sm, vq, vf))
    else (
    if 1000 ≤ fSg ((sm - 1).toNatClampNeg) then (
    (sm, vq, vf))
    else (
    let r_4 : Int32 := fX8_rank (fSg ((sm - 1).toNatClampNeg))
    if r_4 < p1 then (
    (sm, vq, vf))
    else (
    let u_7 : Int32 × Int32 × (Nat → Int64) := fX8_workOut vq sm vf fSg
    lpX8_workDown_0 p1 fSg N u_7.2.1 u_7.1 u_7.2.2)))

def fX8_workDown (p1 : Int32) (M_valueMany : Int32) (M_signMany : Int32) (fVs : Nat → Int64) (fSg : Nat → Int32) : Int32 × Int32 × (Nat → Int64) :=
  let z_12 : Int32 × Int32 × (Nat → Int64) := lpX8_workDown_0 p1 fSg (129) M_signMany M_valueMany fVs
  (z_12.2.1, z_12.1, z_12.2.2)

set_option maxHeartbeats 4000000 in
set_option maxRecDepth 100000 in
theorem c_X8_workDown (l : Launch) (G : va_G) (aM aVs aSg rM_now rM_kept rM_isKept rM_refused rM_was : Nat) (cVs cSg : ClassId) (p1 : Int32) (M_at : Int32) (M_fault : Int32) (M_valueMany : Int32) (M_signMany : Int32) (M_tells : Int64) (M_way : Int32) (M_wish : Int32) (M_moreTick : Int64) (M_moreForce : Int64) (M_runTurns : Int32) (M_runFirst : Int64) (M_runLast : Int64) (M_peak : Int64) (M_beside : Int64) (M_besideAt : Int32) (fVs : Nat → Int64) (fSg : Nat → Int32) (s0 : 0 ≤ M_signMany.toInt) (s1 : M_signMany.toInt ≤ 100) (hvb : M_valueMany.toInt = (bn_ fSg M_signMany.toNatClampNeg : Int) + 1) (v1 : M_valueMany.toInt ≤ 64) : kCv l yX8_workDown (Cond.code yX8_workDown cX8_workDown 2 none :: wsL_law) ({ frames := 1, cells := 0, slots := 0, locals := 26 }) G [(cVs, .long), (cSg, .int)] [.ref aM, .int p1] [(aM, .inr (8, [.ref rM_now, .ref rM_kept, .ref rM_isKept, .ref rM_refused, .int M_at, .int M_fault, .ref aVs, .int M_valueMany, .ref aSg, .int M_signMany, .long M_tells, .int M_way, .int M_wish, .long M_moreTick, .long M_moreForce, .int M_runTurns, .long M_runFirst, .long M_runLast, .ref rM_was, .long M_peak, .long M_beside, .int M_besideAt])), (aVs, .inl (cVs, 64, .inr (.inl fVs))), (aSg, .inl (cSg, 128, .inl fSg))] (fun (u : Int32 × Int32 × (Nat → Int64)) => u = fX8_workDown p1 M_valueMany M_signMany fVs fSg ∧ (0 ≤ u.2.1.toInt) ∧ (u.2.1.toInt ≤ M_signMany.toInt) ∧ (u.1.toInt = (bn_ fSg u.2.1.toNatClampNeg : Int) + 1) ∧ (op_ fSg u.2.1.toNatClampNeg = op_ fSg M_signMany.toNatClampNeg) ∧ (u.2.1.toInt < M_signMany.toInt → fSg u.2.1.toNatClampNeg < 1000) ∧ (u.2.1.toInt = 0 ∨ ¬ fSg (u.2.1 - 1).toNatClampNeg < 1000 ∨ fX8_rank (fSg (u.2.1 - 1).toNatClampNeg) < p1)) (fun (u : Int32 × Int32 × (Nat → Int64)) => [(aM, .inr (8, [.ref rM_now, .ref rM_kept, .ref rM_isKept, .ref rM_refused, .int M_at, .int M_fault, .ref aVs, .int u.1, .ref aSg, .int u.2.1, .long M_tells, .int M_way, .int M_wish, .long M_moreTick, .long M_moreForce, .int M_runTurns, .long M_runFirst, .long M_runLast, .ref rM_was, .long M_peak, .long M_beside, .int M_besideAt])), (aVs, .inl (cVs, 64, .inr (.inl u.2.2))), (aSg, .inl (cSg, 128, .inl fSg))]) := by
  intro sz
  refine Met.ofW (cc := cX8_workDown) (maxL := 2) (ret := none) (by decide) rfl ?_
  intro p e s m args below meth c s₁ B hml hv
  obtain ⟨rfl, hv⟩ := hv
  obtain ⟨rfl, hK, hq, hA⟩ := kk_begin hv
  have hx := B.exec
  have hb := B.bytes
  have hr := B.returns
  have hts := atoms_spec (ws := (Cond.code yX8_workDown cX8_workDown 2 none :: wsL_law)) B.pre
  have hown : s.vm.findClass RX8 = some m.cls := findClass_of_methodNamed B.named
  have hlocks := B.notSynchronized
  have hsb : ∀ w ∈ wsL_law, w ∈ (Cond.code yX8_workDown cX8_workDown 2 none :: wsL_law) := fun _ h => List.mem_cons_of_mem _ h
  generalize va_A [(aM, .inr (8, [.ref rM_now, .ref rM_kept, .ref rM_isKept, .ref rM_refused, .int M_at, .int M_fault, .ref aVs, .int M_valueMany, .ref aSg, .int M_signMany, .long M_tells, .int M_way, .int M_wish, .long M_moreTick, .long M_moreForce, .int M_runTurns, .long M_runFirst, .long M_runLast, .ref rM_was, .long M_peak, .long M_beside, .int M_besideAt])), (aVs, .inl (cVs, 64, .inr (.inl fVs))), (aSg, .inl (cSg, 128, .inl fSg))] s.heap.size = A at hq hA ⊢
  have iX8 : ∀ w ∈ u_ws RX8 TX8 22, w ∈ (Cond.code yX8_workDown cX8_workDown 2 none :: wsL_law) := fun w h => hsb w (bin_X8 w h)
  have lk0_ := hts _ (hsb _ wd_293)
  have lk1_ := hts _ (hsb _ wd_122)
  have hl := lv_entry ([.ref aM, .int p1]) (n := 2) (Nat.le_of_ble_eq_true rfl)
  rw [lg_entry_eq]
  generalize (lg_sl ([.ref aM, .int p1]) ++ List.replicate (2 - (lg_sl ([.ref aM, .int p1])).length) Slot.unset).toArray = ls at hl ⊢
  have hl : lv_has ls 2 [(0, .ref aM), (1, .int p1)] := hl
  refine kk_loop3 (fun N0 (sm : Int32) (vq : Int32) (vf : Nat → Int64) (H : Heap) (locs : List Loc) (ls : Array Slot) => lpX8_workDown_0 p1 fSg (129) M_signMany M_valueMany fVs = lpX8_workDown_0 p1 fSg N0 sm vq vf ∧ (0 ≤ sm.toInt) ∧ (sm.toInt ≤ M_signMany.toInt) ∧ (vq.toInt = (bn_ fSg sm.toNatClampNeg : Int) + 1) ∧ (op_ fSg sm.toNatClampNeg = op_ fSg M_signMany.toNatClampNeg) ∧ (vq.toInt ≤ 64) ∧ (sm.toInt < M_signMany.toInt → fSg sm.toNatClampNeg < 1000) ∧ (sm.toInt < N0) ∧ lv_has ls 2 [(0, .ref aM), (1, .int p1)] ∧ kAt G A s [(aM, .inr (8, [.ref rM_now, .ref rM_kept, .ref rM_isKept, .ref rM_refused, .int M_at, .int M_fault, .ref aVs, .int vq, .ref aSg, .int sm, .long M_tells, .int M_way, .int M_wish, .long M_moreTick, .long M_moreForce, .int M_runTurns, .long M_runFirst, .long M_runLast, .ref rM_was, .long M_peak, .long M_beside, .int M_besideAt])), (aVs, .inl (cVs, 64, .inr (.inl vf))), (aSg, .inl (cSg, 128, .inl fSg))] H locs) 0 (fun sm vq vf => []) (fun sm vq vf H locs ls hv => ?_) (fun N0 sm vq vf H locs ls ih0 hv => ?_) (129) M_signMany M_valueMany fVs _ _ _ ⟨rfl, s0, (Int.le_refl _), hvb, rfl, v1, (fun h => absurd h (by omega)), (by omega), lv_sub hl [0, 1] rfl, hq⟩
  · skip
    obtain ⟨hrel0, r0, r1, r2, r3, r4, r5, hN, hl, hq⟩ := hv
    omega
  · skip
    obtain ⟨hrel0, r0, r1, r2, r3, r4, r5, hN, hl, hq⟩ := hv
    refine lv_aload_n hx hb dX8_workDown_0 rfl (lv_at hl 0 rfl) ?_
    refine kk_get (ci := 8) (v := .int sm) (C := RX8) (T := TX8) (N := 22) hx hb hts iX8 hown hK hq 0 rfl rfl 9 (by decide) lk0_ rfl dX8_workDown_1 ?_
    refine lv_if_le (tgt := 49) hx hb dX8_workDown_4 (by decide) (fun c_1 => ?_) (fun c_1 => ?_)
    · skip
      have hx6 : sm.toInt = 0 ∨ ¬ fSg (sm - 1).toNatClampNeg < 1000 ∨ fX8_rank (fSg (sm - 1).toNatClampNeg) < p1 := Or.inl (by have := kk_le2 (k := 0) rfl c_1; omega)
      have hx_2 : ((sm, vq, vf) : Int32 × Int32 × (Nat → Int64)) = lpX8_workDown_0 p1 fSg (129) M_signMany M_valueMany fVs := (hrel0.trans ((if_pos c_1))).symm
      obtain ⟨z_3, gz_3⟩ : ∃ z : Int32 × Int32 × (Nat → Int64), z = (sm, vq, vf) := ⟨_, rfl⟩
      have ez_3 : z_3 = lpX8_workDown_0 p1 fSg (129) M_signMany M_valueMany fVs := gz_3.trans hx_2
      have hl : lv_has ls 2 [(0, .ref aM), (1, .int p1)] := by subst gz_3; exact hl
      have hq : kAt G A s [(aM, .inr (8, [.ref rM_now, .ref rM_kept, .ref rM_isKept, .ref rM_refused, .int M_at, .int M_fault, .ref aVs, .int z_3.2.1, .ref aSg, .int z_3.1, .long M_tells, .int M_way, .int M_wish, .long M_moreTick, .long M_moreForce, .int M_runTurns, .long M_runFirst, .long M_runLast, .ref rM_was, .long M_peak, .long M_beside, .int M_besideAt])), (aVs, .inl (cVs, 64, .inr (.inl z_3.2.2))), (aSg, .inl (cSg, 128, .inl fSg))] H locs := by subst gz_3; exact hq
      have d0 : 0 ≤ z_3.1.toInt := by subst gz_3; exact r0
      have d1 : z_3.1.toInt ≤ M_signMany.toInt := by subst gz_3; exact r1
      have d2 : z_3.2.1.toInt = (bn_ fSg z_3.1.toNatClampNeg : Int) + 1 := by subst gz_3; exact r2
      have d5 : z_3.1.toInt < M_signMany.toInt → fSg z_3.1.toNatClampNeg < 1000 := by subst gz_3; exact r5
      have d4 : op_ fSg z_3.1.toNatClampNeg = op_ fSg M_signMany.toNatClampNeg := by subst gz_3; exact r3
      have d3 : z_3.1.toInt = 0 ∨ ¬ fSg (z_3.1 - 1).toNatClampNeg < 1000 ∨ fX8_rank (fSg (z_3.1 - 1).toNatClampNeg) < p1 := by subst gz_3; exact hx6
      have hf : ((z_3.2.1, z_3.1, z_3.2.2) : Int32 × Int32 × (Nat → Int64)) = fX8_workDown p1 M_valueMany M_signMany fVs fSg := by
        exact ((congrArg (fun (z_3 : Int32 × Int32 × (Nat → Int64)) => (((z_3.2.1, z_3.1, z_3.2.2)) : Int32 × Int32 × (Nat → Int64))) ez_3.symm)).symm
      have en_0 : 0 ≤ z_3.1.toInt := by first | assumption | omega
      have en_1 : z_3.1.toInt ≤ M_signMany.toInt := by first | assumption | omega
      have en_2 : z_3.2.1.toInt = (bn_ fSg z_3.1.toNatClampNeg : Int) + 1 := by first | assumption | omega
      have en_3 : op_ fSg z_3.1.toNatClampNeg = op_ fSg M_signMany.toNatClampNeg := by first | assumption | omega
      have en_4 : z_3.1.toInt < M_signMany.toInt → fSg z_3.1.toNatClampNeg < 1000 := by first | assumption | omega
      have en_5 : z_3.1.toInt = 0 ∨ ¬ fSg (z_3.1 - 1).toNatClampNeg < 1000 ∨ fX8_rank (fSg (z_3.1 - 1).toNatClampNeg) < p1 := by first | assumption | omega
      exact kk_ev hx hb hr hlocks hK hq [0, 1, 2] (z_3.2.1, z_3.1, z_3.2.2) rfl (by decide) dX8_workDown_49 ⟨hf, en_0, en_1, en_2, en_3, en_4, en_5⟩
    · skip
      have hsp := kk_nle2 (k := 0) rfl c_1
      have hd := dec_b (x := sm) (n := (128 : Nat)) rfl hsp (by omega)
      refine lv_aload_n hx hb dX8_workDown_7 rfl (lv_at hl 0 rfl) ?_
      refine kk_get (ci := 8) (v := .ref aSg) (C := RX8) (T := TX8) (N := 22) hx hb hts iX8 hown hK hq 0 rfl rfl 8 (by decide) lk1_ rfl dX8_workDown_8 ?_
      refine lv_aload_n hx hb dX8_workDown_11 rfl (lv_at hl 0 rfl) ?_
      refine kk_get (ci := 8) (v := .int sm) (C := RX8) (T := TX8) (N := 22) hx hb hts iX8 hown hK hq 0 rfl rfl 9 (by decide) lk0_ rfl dX8_workDown_12 ?_
      refine lv_iconst (v := 1) hx hb dX8_workDown_15 (by decide) ?_
      refine lv_isub hx hb dX8_workDown_16 ?_
      refine kk_iald hx hb hK hq 2 1 rfl rfl ((sm - 1).toNatClampNeg) (kk_cl hd.1) (kk_clt hd.1 hd.2.1) (by decide) dX8_workDown_17 ?_
      refine lv_sipush (v := 1000) hx hb dX8_workDown_18 (by decide) ?_
      refine lv_icmp_ge (tgt := 49) hx hb dX8_workDown_21 (by decide) (fun c_4 => ?_) (fun c_4 => ?_)
      · skip
        have hx6 : sm.toInt = 0 ∨ ¬ fSg (sm - 1).toNatClampNeg < 1000 ∨ fX8_rank (fSg (sm - 1).toNatClampNeg) < p1 := Or.inr (Or.inl (Int32.not_lt.mpr c_4))
        have hx_5 : ((sm, vq, vf) : Int32 × Int32 × (Nat → Int64)) = lpX8_workDown_0 p1 fSg (129) M_signMany M_valueMany fVs := (hrel0.trans ((if_neg c_1).trans ((if_pos c_4)))).symm
        obtain ⟨z_6, gz_6⟩ : ∃ z : Int32 × Int32 × (Nat → Int64), z = (sm, vq, vf) := ⟨_, rfl⟩
        have ez_6 : z_6 = lpX8_workDown_0 p1 fSg (129) M_signMany M_valueMany fVs := gz_6.trans hx_5
        have hl : lv_has ls 2 [(0, .ref aM), (1, .int p1)] := by subst gz_6; exact hl
        have hq : kAt G A s [(aM, .inr (8, [.ref rM_now, .ref rM_kept, .ref rM_isKept, .ref rM_refused, .int M_at, .int M_fault, .ref aVs, .int z_6.2.1, .ref aSg, .int z_6.1, .long M_tells, .int M_way, .int M_wish, .long M_moreTick, .long M_moreForce, .int M_runTurns, .long M_runFirst, .long M_runLast, .ref rM_was, .long M_peak, .long M_beside, .int M_besideAt])), (aVs, .inl (cVs, 64, .inr (.inl z_6.2.2))), (aSg, .inl (cSg, 128, .inl fSg))] H locs := by subst gz_6; exact hq
        have d0 : 0 ≤ z_6.1.toInt := by subst gz_6; exact r0
        have d1 : z_6.1.toInt ≤ M_signMany.toInt := by subst gz_6; exact r1
        have d2 : z_6.2.1.toInt = (bn_ fSg z_6.1.toNatClampNeg : Int) + 1 := by subst gz_6; exact r2
        have d5 : z_6.1.toInt < M_signMany.toInt → fSg z_6.1.toNatClampNeg < 1000 := by subst gz_6; exact r5
        have d4 : op_ fSg z_6.1.toNatClampNeg = op_ fSg M_signMany.toNatClampNeg := by subst gz_6; exact r3
        have d3 : z_6.1.toInt = 0 ∨ ¬ fSg (z_6.1 - 1).toNatClampNeg < 1000 ∨ fX8_rank (fSg (z_6.1 - 1).toNatClampNeg) < p1 := by subst gz_6; exact hx6
        have hf : ((z_6.2.1, z_6.1, z_6.2.2) : Int32 × Int32 × (Nat → Int64)) = fX8_workDown p1 M_valueMany M_signMany fVs fSg := by
          exact ((congrArg (fun (z_6 : Int32 × Int32 × (Nat → Int64)) => (((z_6.2.1, z_6.1, z_6.2.2)) : Int32 × Int32 × (Nat → Int64))) ez_6.symm)).symm
        have en_0 : 0 ≤ z_6.1.toInt := by first | assumption | omega
        have en_1 : z_6.1.toInt ≤ M_signMany.toInt := by first | assumption | omega
        have en_2 : z_6.2.1.toInt = (bn_ fSg z_6.1.toNatClampNeg : Int) + 1 := by first | assumption | omega
        have en_3 : op_ fSg z_6.1.toNatClampNeg = op_ fSg M_signMany.toNatClampNeg := by first | assumption | omega
        have en_4 : z_6.1.toInt < M_signMany.toInt → fSg z_6.1.toNatClampNeg < 1000 := by first | assumption | omega
        have en_5 : z_6.1.toInt = 0 ∨ ¬ fSg (z_6.1 - 1).toNatClampNeg < 1000 ∨ fX8_rank (fSg (z_6.1 - 1).toNatClampNeg) < p1 := by first | assumption | omega
        exact kk_ev hx hb hr hlocks hK hq [0, 1, 2] (z_6.2.1, z_6.1, z_6.2.2) rfl (by decide) dX8_workDown_49 ⟨hf, en_0, en_1, en_2, en_3, en_4, en_5⟩
      · skip
        have hlt := kk_nle (k := 1000) rfl c_4
        have hbp := bn_pop1 hsp hlt
        refine lv_aload_n hx hb dX8_workDown_24 rfl (lv_at hl 0 rfl) ?_
        refine kk_get (ci := 8) (v := .ref aSg) (C := RX8) (T := TX8) (N := 22) hx hb hts iX8 hown hK hq 0 rfl rfl 8 (by decide) lk1_ rfl dX8_workDown_25 ?_
        refine lv_aload_n hx hb dX8_workDown_28 rfl (lv_at hl 0 rfl) ?_
        refine kk_get (ci := 8) (v := .int sm) (C := RX8) (T := TX8) (N := 22) hx hb hts iX8 hown hK hq 0 rfl rfl 9 (by decide) lk0_ rfl dX8_workDown_29 ?_
        refine lv_iconst (v := 1) hx hb dX8_workDown_32 (by decide) ?_
        refine lv_isub hx hb dX8_workDown_33 ?_
        refine kk_iald hx hb hK hq 2 1 rfl rfl ((sm - 1).toNatClampNeg) (kk_cl hd.1) (kk_clt hd.1 hd.2.1) (by decide) dX8_workDown_34 ?_
        refine kk_Si (As := [.int (fSg ((sm - 1).toNatClampNeg))]) (rest := []) (wr := [(aM, .inr (8, [.ref rM_now, .ref rM_kept, .ref rM_isKept, .ref rM_refused, .int M_at, .int M_fault, .ref aVs, .int vq, .ref aSg, .int sm, .long M_tells, .int M_way, .int M_wish, .long M_moreTick, .long M_moreForce, .int M_runTurns, .long M_runFirst, .long M_runLast, .ref rM_was, .long M_peak, .long M_beside, .int M_besideAt])), (aVs, .inl (cVs, 64, .inr (.inl vf))), (aSg, .inl (cSg, 128, .inl fSg))]) ⟨hx, hb, hml, hown, hts⟩ (c_X8_rank l G (fSg ((sm - 1).toNatClampNeg))) (kk_cwS 1 hts hsb wd_321 wd_322 wd_5 wd_323 rfl rfl hd_X8_rank ⟨Nat.le_of_ble_eq_true rfl, Nat.le_of_ble_eq_true rfl⟩) hA hK hq [] [0, 1, 2] [] rfl rfl rfl (by decide) (by decide) (by decide) rfl hl.1 rfl (Nat.le_of_ble_eq_true rfl) dX8_workDown_35 ⟨Nat.zero_le _, Nat.zero_le _⟩ (fun r_8 u_7 H locs h_9 hq => ?_)
        have er_8 := h_9
        have hq : kAt G A s [(aM, .inr (8, [.ref rM_now, .ref rM_kept, .ref rM_isKept, .ref rM_refused, .int M_at, .int M_fault, .ref aVs, .int vq, .ref aSg, .int sm, .long M_tells, .int M_way, .int M_wish, .long M_moreTick, .long M_moreForce, .int M_runTurns, .long M_runFirst, .long M_runLast, .ref rM_was, .long M_peak, .long M_beside, .int M_besideAt])), (aVs, .inl (cVs, 64, .inr (.inl vf))), (aSg, .inl (cSg, 128, .inl fSg))] H locs := hq
        have hrk := er_8
        refine lv_iload_n hx hb dX8_workDown_38 rfl (lv_at hl 1 rfl) ?_
        refine lv_icmp_lt (tgt := 49) hx hb dX8_workDown_39 (by decide) (fun c_10 => ?_) (fun c_10 => ?_)
        · skip
          have hx6 : sm.toInt = 0 ∨ ¬ fSg (sm - 1).toNatClampNeg < 1000 ∨ fX8_rank (fSg (sm - 1).toNatClampNeg) < p1 := Or.inr (Or.inr (hrk ▸ c_10))
          have hx_11 : ((sm, vq, vf) : Int32 × Int32 × (Nat → Int64)) = lpX8_workDown_0 p1 fSg (129) M_signMany M_valueMany fVs := (hrel0.trans ((if_neg c_1).trans ((if_neg c_4).trans ((congrArg (fun (r_8 : Int32) => ((if r_8 < p1 then (
    (sm, vq, vf))
    else (
    let u_7 : Int32 × Int32 × (Nat → Int64) := fX8_workOut vq sm vf fSg
    lpX8_workDown_0 p1 fSg N0 u_7.2.1 u_7.1 u_7.2.2)) : Int32 × Int32 × (Nat → Int64))) er_8.symm).trans ((if_pos c_10)))))).symm
          obtain ⟨z_12, gz_12⟩ : ∃ z : Int32 × Int32 × (Nat → Int64), z = (sm, vq, vf) := ⟨_, rfl⟩
          have ez_12 : z_12 = lpX8_workDown_0 p1 fSg (129) M_signMany M_valueMany fVs := gz_12.trans hx_11
          have hl : lv_has ls 2 [(0, .ref aM), (1, .int p1)] := by subst gz_12; exact hl
          have hq : kAt G A s [(aM, .inr (8, [.ref rM_now, .ref rM_kept, .ref rM_isKept, .ref rM_refused, .int M_at, .int M_fault, .ref aVs, .int z_12.2.1, .ref aSg, .int z_12.1, .long M_tells, .int M_way, .int M_wish, .long M_moreTick, .long M_moreForce, .int M_runTurns, .long M_runFirst, .long M_runLast, .ref rM_was, .long M_peak, .long M_beside, .int M_besideAt])), (aVs, .inl (cVs, 64, .inr (.inl z_12.2.2))), (aSg, .inl (cSg, 128, .inl fSg))] H locs := by subst gz_12; exact hq
          have d0 : 0 ≤ z_12.1.toInt := by subst gz_12; exact r0
          have d1 : z_12.1.toInt ≤ M_signMany.toInt := by subst gz_12; exact r1
          have d2 : z_12.2.1.toInt = (bn_ fSg z_12.1.toNatClampNeg : Int) + 1 := by subst gz_12; exact r2
          have d5 : z_12.1.toInt < M_signMany.toInt → fSg z_12.1.toNatClampNeg < 1000 := by subst gz_12; exact r5
          have d4 : op_ fSg z_12.1.toNatClampNeg = op_ fSg M_signMany.toNatClampNeg := by subst gz_12; exact r3
          have d3 : z_12.1.toInt = 0 ∨ ¬ fSg (z_12.1 - 1).toNatClampNeg < 1000 ∨ fX8_rank (fSg (z_12.1 - 1).toNatClampNeg) < p1 := by subst gz_12; exact hx6
          have hf : ((z_12.2.1, z_12.1, z_12.2.2) : Int32 × Int32 × (Nat → Int64)) = fX8_workDown p1 M_valueMany M_signMany fVs fSg := by
            exact ((congrArg (fun (z_12 : Int32 × Int32 × (Nat → Int64)) => (((z_12.2.1, z_12.1, z_12.2.2)) : Int32 × Int32 × (Nat → Int64))) ez_12.symm)).symm
          have en_0 : 0 ≤ z_12.1.toInt := by first | assumption | omega
          have en_1 : z_12.1.toInt ≤ M_signMany.toInt := by first | assumption | omega
          have en_2 : z_12.2.1.toInt = (bn_ fSg z_12.1.toNatClampNeg : Int) + 1 := by first | assumption | omega
          have en_3 : op_ fSg z_12.1.toNatClampNeg = op_ fSg M_signMany.toNatClampNeg := by first | assumption | omega
          have en_4 : z_12.1.toInt < M_signMany.toInt → fSg z_12.1.toNatClampNeg < 1000 := by first | assumption | omega
          have en_5 : z_12.1.toInt = 0 ∨ ¬ fSg (z_12.1 - 1).toNatClampNeg < 1000 ∨ fX8_rank (fSg (z_12.1 - 1).toNatClampNeg) < p1 := by first | assumption | omega
          exact kk_ev hx hb hr hlocks hK hq [0, 1, 2] (z_12.2.1, z_12.1, z_12.2.2) rfl (by decide) dX8_workDown_49 ⟨hf, en_0, en_1, en_2, en_3, en_4, en_5⟩
        · skip
          refine lv_aload_n hx hb dX8_workDown_42 rfl (lv_at hl 0 rfl) ?_
          refine kk_Vv (As := []) (rest := []) (wr := []) ⟨hx, hb, hml, hown, hts⟩ (c_X8_workOut l G aM aVs aSg rM_now rM_kept rM_isKept rM_refused rM_was cVs cSg M_at M_fault vq sm M_tells M_way M_wish M_moreTick M_moreForce M_runTurns M_runFirst M_runLast M_peak M_beside M_besideAt vf fSg hsp (by omega) (by omega) r4) (kk_cwV 0 hts hsb wd_324 wd_325 wd_326 wd_5 wd_327 rfl rfl hd_X8_workOut ⟨Nat.le_of_ble_eq_true rfl, Nat.le_of_ble_eq_true rfl⟩) hA hK hq [0, 1, 2] [] [0, 1] rfl rfl rfl (by decide) (by decide) (by decide) 0 8 rfl rfl rfl rfl hl.1 rfl (Nat.le_of_ble_eq_true rfl) dX8_workDown_43 ⟨Nat.zero_le _, Nat.zero_le _⟩ (fun u_13 H locs h_15 hq => ?_)
          have eu_13 := h_15
          have hq : kAt G A s [(aM, .inr (8, [.ref rM_now, .ref rM_kept, .ref rM_isKept, .ref rM_refused, .int M_at, .int M_fault, .ref aVs, .int u_13.1, .ref aSg, .int u_13.2.1, .long M_tells, .int M_way, .int M_wish, .long M_moreTick, .long M_moreForce, .int M_runTurns, .long M_runFirst, .long M_runLast, .ref rM_was, .long M_peak, .long M_beside, .int M_besideAt])), (aVs, .inl (cVs, 64, .inr (.inl u_13.2.2))), (aSg, .inl (cSg, 128, .inl fSg))] H locs := hq
          have hu1 : u_13.1 = vq - 1 := by rw [eu_13]; rfl
          have hu2 : u_13.2.1 = sm - 1 := by rw [eu_13]; rfl
          have hvm := kk_dec (x := vq) (by omega)
          refine lv_goto (tgt := 0) hx hb dX8_workDown_46 (by decide) ?_
          exact ih0 u_13.2.1 u_13.1 u_13.2.2 _ _ _ ⟨(hrel0.trans ((if_neg c_1).trans ((if_neg c_4).trans ((congrArg (fun (r_8 : Int32) => ((if r_8 < p1 then (
    (sm, vq, vf))
    else (
    let u_7 : Int32 × Int32 × (Nat → Int64) := fX8_workOut vq sm vf fSg
    lpX8_workDown_0 p1 fSg N0 u_7.2.1 u_7.1 u_7.2.2)) : Int32 × Int32 × (Nat → Int64))) er_8.symm).trans ((if_neg c_10).trans ((congrArg (fun (u_13 : Int32 × Int32 × (Nat → Int64)) => ((lpX8_workDown_0 p1 fSg N0 u_13.2.1 u_13.1 u_13.2.2) : Int32 × Int32 × (Nat → Int64))) eu_13.symm))))))), (by rw [hu2]; omega), (by rw [hu2]; omega), (by rw [hu1, hu2]; omega), (by rw [hu2, op_pop hsp (by omega)]; exact r3), (by rw [hu1]; omega), (fun _ => by rw [hu2, il_lt]; exact hlt), (by rw [hu2]; omega), lv_sub hl [0, 1] rfl, hq⟩

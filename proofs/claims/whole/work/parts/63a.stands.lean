/-- how many of the first signs stand between two values; how many are open -/
def bn_ (sf : Nat → Int32) : Nat → Nat
  | 0 => 0
  | a + 1 => bn_ sf a + (if sf a < 1000 then 1 else 0)
def op_ (sf : Nat → Int32) : Nat → Nat
  | 0 => 0
  | a + 1 => op_ sf a + (if sf a = 1000 then 1 else 0)
theorem cl_pred {x : Int32} (h : 0 < x.toInt) : x.toNatClampNeg = (x - 1).toNatClampNeg + 1 := by
  have h1 := kk_dec (x := x) (by omega)
  have h2 := kk_clN (x := x) (by omega)
  have h3 := kk_clN (x := x - 1) (by omega)
  omega
theorem bn_pop {sf : Nat → Int32} {x : Int32} (h : 0 < x.toInt) (ht : 1000 < (sf (x - 1).toNatClampNeg).toInt) : bn_ sf (x - 1).toNatClampNeg = bn_ sf x.toNatClampNeg := by
  rw [cl_pred h]
  show _ = _ + _
  rw [if_neg (by rw [il_lt]; have : (1000 : Int32).toInt = 1000 := rfl; omega)]
  rfl
theorem op_pop {sf : Nat → Int32} {x : Int32} (h : 0 < x.toInt) (ht : (sf (x - 1).toNatClampNeg).toInt ≠ 1000) : op_ sf (x - 1).toNatClampNeg = op_ sf x.toNatClampNeg := by
  rw [cl_pred h]
  show _ = _ + _
  rw [if_neg (fun e => ht (by rw [e]; rfl))]
  rfl
theorem bn_pop1 {sf : Nat → Int32} {x : Int32} (h : 0 < x.toInt) (ht : (sf (x - 1).toNatClampNeg).toInt < 1000) : bn_ sf x.toNatClampNeg = bn_ sf (x - 1).toNatClampNeg + 1 := by
  rw [cl_pred h]
  show _ + _ = _
  rw [if_pos (by rw [il_lt]; have : (1000 : Int32).toInt = 1000 := rfl; omega)]
def lpX8_stands_2 (fSg : Nat → Int32) : Nat → Int32 → Int64 → Int32 × Int64
  | 0, _, _ => (0, 0)
  | N + 1, sm, wv =>
    if sm ≤ 0 then (
    (sm, wv))
    else (
    if fSg ((sm - 1).toNatClampNeg) ≤ 1000 then (
    (sm, wv))
    else (
    let z0_4 : Int64 := if fSg ((sm - 1).toNatClampNeg) = 1001 then if wv = 0 then 1 else 0 else -wv
    lpX8_stands_2 fSg N (sm - 1) z0_4))

def fX8_stands (p1 : Int64) (M_valueMany : Int32) (M_signMany : Int32) (fVs : Nat → Int64) (fSg : Nat → Int32) : Int32 × Int32 × (Nat → Int64) :=
  let z_6 : Int32 × Int64 := lpX8_stands_2 fSg (129) M_signMany p1
  (M_valueMany + 1, z_6.1, vp_updL fVs M_valueMany.toNatClampNeg z_6.2)

set_option maxHeartbeats 4000000 in
set_option maxRecDepth 100000 in
theorem c_X8_stands (l : Launch) (G : va_G) (aM aVs aSg rM_now rM_kept rM_isKept rM_refused rM_was : Nat) (cVs cSg : ClassId) (p1 : Int64) (M_at : Int32) (M_fault : Int32) (M_valueMany : Int32) (M_signMany : Int32) (M_tells : Int64) (M_way : Int32) (M_wish : Int32) (M_moreTick : Int64) (M_moreForce : Int64) (M_runTurns : Int32) (M_runFirst : Int64) (M_runLast : Int64) (M_peak : Int64) (M_beside : Int64) (M_besideAt : Int32) (fVs : Nat → Int64) (fSg : Nat → Int32) (s0 : 0 ≤ M_signMany.toInt) (s1 : M_signMany.toInt ≤ 100) (v0 : 0 ≤ M_valueMany.toInt) (v1 : M_valueMany.toInt < 64) : kCv l yX8_stands (Cond.code yX8_stands cX8_stands 5 none :: wsL_law) ({ frames := 0, cells := 0, slots := 0, locals := 0 }) G [(cVs, .long), (cSg, .int)] [.ref aM, .long p1] [(aM, .inr (8, [.ref rM_now, .ref rM_kept, .ref rM_isKept, .ref rM_refused, .int M_at, .int M_fault, .ref aVs, .int M_valueMany, .ref aSg, .int M_signMany, .long M_tells, .int M_way, .int M_wish, .long M_moreTick, .long M_moreForce, .int M_runTurns, .long M_runFirst, .long M_runLast, .ref rM_was, .long M_peak, .long M_beside, .int M_besideAt])), (aVs, .inl (cVs, 64, .inr (.inl fVs))), (aSg, .inl (cSg, 128, .inl fSg))] (fun (u : Int32 × Int32 × (Nat → Int64)) => u = fX8_stands p1 M_valueMany M_signMany fVs fSg ∧ (u.1.toInt = M_valueMany.toInt + 1) ∧ (0 ≤ u.2.1.toInt) ∧ (u.2.1.toInt ≤ M_signMany.toInt) ∧ (bn_ fSg u.2.1.toNatClampNeg = bn_ fSg M_signMany.toNatClampNeg) ∧ (op_ fSg u.2.1.toNatClampNeg = op_ fSg M_signMany.toNatClampNeg) ∧ (u.2.1.toInt = 0 ∨ fSg (u.2.1 - 1).toNatClampNeg ≤ 1000)) (fun (u : Int32 × Int32 × (Nat → Int64)) => [(aM, .inr (8, [.ref rM_now, .ref rM_kept, .ref rM_isKept, .ref rM_refused, .int M_at, .int M_fault, .ref aVs, .int u.1, .ref aSg, .int u.2.1, .long M_tells, .int M_way, .int M_wish, .long M_moreTick, .long M_moreForce, .int M_runTurns, .long M_runFirst, .long M_runLast, .ref rM_was, .long M_peak, .long M_beside, .int M_besideAt])), (aVs, .inl (cVs, 64, .inr (.inl u.2.2))), (aSg, .inl (cSg, 128, .inl fSg))]) := by
  intro sz
  refine Met.ofW (cc := cX8_stands) (maxL := 5) (ret := none) (by decide) rfl ?_
  intro p e s m args below meth c s₁ B hml hv
  obtain ⟨rfl, hv⟩ := hv
  obtain ⟨rfl, hK, hq, hA⟩ := kk_begin hv
  have hx := B.exec
  have hb := B.bytes
  have hr := B.returns
  have hts := atoms_spec (ws := (Cond.code yX8_stands cX8_stands 5 none :: wsL_law)) B.pre
  have hown : s.vm.findClass RX8 = some m.cls := findClass_of_methodNamed B.named
  have hlocks := B.notSynchronized
  have hsb : ∀ w ∈ wsL_law, w ∈ (Cond.code yX8_stands cX8_stands 5 none :: wsL_law) := fun _ h => List.mem_cons_of_mem _ h
  generalize va_A [(aM, .inr (8, [.ref rM_now, .ref rM_kept, .ref rM_isKept, .ref rM_refused, .int M_at, .int M_fault, .ref aVs, .int M_valueMany, .ref aSg, .int M_signMany, .long M_tells, .int M_way, .int M_wish, .long M_moreTick, .long M_moreForce, .int M_runTurns, .long M_runFirst, .long M_runLast, .ref rM_was, .long M_peak, .long M_beside, .int M_besideAt])), (aVs, .inl (cVs, 64, .inr (.inl fVs))), (aSg, .inl (cSg, 128, .inl fSg))] s.heap.size = A at hq hA ⊢
  have iX8 : ∀ w ∈ u_ws RX8 TX8 22, w ∈ (Cond.code yX8_stands cX8_stands 5 none :: wsL_law) := fun w h => hsb w (bin_X8 w h)
  have lk0_ := hts _ (hsb _ wd_293)
  have lk1_ := hts _ (hsb _ wd_122)
  have lk2_ := hts _ (hsb _ wd_121)
  have lk3_ := hts _ (hsb _ wd_292)
  have hl := lv_entry ([.ref aM, .long p1]) (n := 5) (Nat.le_of_ble_eq_true rfl)
  rw [lg_entry_eq]
  generalize (lg_sl ([.ref aM, .long p1]) ++ List.replicate (5 - (lg_sl ([.ref aM, .long p1])).length) Slot.unset).toArray = ls at hl ⊢
  have hl : lv_has ls 5 [(0, .ref aM), (1, .long p1)] := hl
  refine lv_lload_n hx hb dX8_stands_0 rfl (lv_at hl 1 rfl) ?_
  refine lv_lstore_n (lv' := [(3, .long p1), (0, .ref aM), (1, .long p1)]) hx hb dX8_stands_1 rfl hl (by decide) rfl (fun ls hl => ?_)
  refine kk_loop2 (fun N2 (sm : Int32) (wv : Int64) (H : Heap) (locs : List Loc) (ls : Array Slot) => lpX8_stands_2 fSg (129) M_signMany p1 = lpX8_stands_2 fSg N2 sm wv ∧ (0 ≤ sm.toInt) ∧ (sm.toInt ≤ M_signMany.toInt) ∧ (bn_ fSg sm.toNatClampNeg = bn_ fSg M_signMany.toNatClampNeg) ∧ (op_ fSg sm.toNatClampNeg = op_ fSg M_signMany.toNatClampNeg) ∧ (sm.toInt < N2) ∧ lv_has ls 5 [(3, .long wv), (0, .ref aM), (1, .long p1)] ∧ kAt G A s [(aM, .inr (8, [.ref rM_now, .ref rM_kept, .ref rM_isKept, .ref rM_refused, .int M_at, .int M_fault, .ref aVs, .int M_valueMany, .ref aSg, .int sm, .long M_tells, .int M_way, .int M_wish, .long M_moreTick, .long M_moreForce, .int M_runTurns, .long M_runFirst, .long M_runLast, .ref rM_was, .long M_peak, .long M_beside, .int M_besideAt])), (aVs, .inl (cVs, 64, .inr (.inl fVs))), (aSg, .inl (cSg, 128, .inl fSg))] H locs) 2 (fun sm wv => []) (fun sm wv H locs ls hv => ?_) (fun N2 sm wv H locs ls ih2 hv => ?_) (129) M_signMany p1 _ _ _ ⟨rfl, s0, (Int.le_refl _), rfl, rfl, (by omega), lv_sub hl [0, 1, 2] rfl, hq⟩
  · skip
    obtain ⟨hrel2, r0, r1, r2, r3, hN, hl, hq⟩ := hv
    omega
  · skip
    obtain ⟨hrel2, r0, r1, r2, r3, hN, hl, hq⟩ := hv
    refine lv_aload_n hx hb dX8_stands_2 rfl (lv_at hl 1 rfl) ?_
    refine kk_get (ci := 8) (v := .int sm) (C := RX8) (T := TX8) (N := 22) hx hb hts iX8 hown hK hq 0 rfl rfl 9 (by decide) lk0_ rfl dX8_stands_3 ?_
    refine lv_if_le (tgt := 73) hx hb dX8_stands_6 (by decide) (fun c_1 => ?_) (fun c_1 => ?_)
    · skip
      have hx6 : sm.toInt = 0 ∨ fSg (sm - 1).toNatClampNeg ≤ 1000 := Or.inl (by have := kk_le2 (k := 0) rfl c_1; omega)
      have hx_2 : ((sm, wv) : Int32 × Int64) = lpX8_stands_2 fSg (129) M_signMany p1 := (hrel2.trans ((if_pos c_1))).symm
      obtain ⟨z_3, gz_3⟩ : ∃ z : Int32 × Int64, z = (sm, wv) := ⟨_, rfl⟩
      have ez_3 : z_3 = lpX8_stands_2 fSg (129) M_signMany p1 := gz_3.trans hx_2
      have hl : lv_has ls 5 [(3, .long z_3.2), (0, .ref aM), (1, .long p1)] := by subst gz_3; exact hl
      have hq : kAt G A s [(aM, .inr (8, [.ref rM_now, .ref rM_kept, .ref rM_isKept, .ref rM_refused, .int M_at, .int M_fault, .ref aVs, .int M_valueMany, .ref aSg, .int z_3.1, .long M_tells, .int M_way, .int M_wish, .long M_moreTick, .long M_moreForce, .int M_runTurns, .long M_runFirst, .long M_runLast, .ref rM_was, .long M_peak, .long M_beside, .int M_besideAt])), (aVs, .inl (cVs, 64, .inr (.inl fVs))), (aSg, .inl (cSg, 128, .inl fSg))] H locs := by subst gz_3; exact hq
      have b2 : 0 ≤ z_3.1.toInt := by subst gz_3; exact r0
      have b3 : z_3.1.toInt ≤ M_signMany.toInt := by subst gz_3; exact r1
      have b4 : bn_ fSg z_3.1.toNatClampNeg = bn_ fSg M_signMany.toNatClampNeg := by subst gz_3; exact r2
      have b5 : op_ fSg z_3.1.toNatClampNeg = op_ fSg M_signMany.toNatClampNeg := by subst gz_3; exact r3
      have b6 : z_3.1.toInt = 0 ∨ fSg (z_3.1 - 1).toNatClampNeg ≤ 1000 := by subst gz_3; exact hx6
      refine lv_aload_n hx hb dX8_stands_73 rfl (lv_at hl 1 rfl) ?_
      refine kk_get (ci := 8) (v := .ref aVs) (C := RX8) (T := TX8) (N := 22) hx hb hts iX8 hown hK hq 0 rfl rfl 6 (by decide) lk2_ rfl dX8_stands_74 ?_
      refine lv_aload_n hx hb dX8_stands_77 rfl (lv_at hl 1 rfl) ?_
      refine kk_get (ci := 8) (v := .int M_valueMany) (C := RX8) (T := TX8) (N := 22) hx hb hts iX8 hown hK hq 0 rfl rfl 7 (by decide) lk3_ rfl dX8_stands_78 ?_
      refine lv_lload_n hx hb dX8_stands_81 rfl (lv_at hl 0 rfl) ?_
      refine kk_last (ws' := [(aM, .inr (8, [.ref rM_now, .ref rM_kept, .ref rM_isKept, .ref rM_refused, .int M_at, .int M_fault, .ref aVs, .int M_valueMany, .ref aSg, .int z_3.1, .long M_tells, .int M_way, .int M_wish, .long M_moreTick, .long M_moreForce, .int M_runTurns, .long M_runFirst, .long M_runLast, .ref rM_was, .long M_peak, .long M_beside, .int M_besideAt])), (aVs, .inl (cVs, 64, .inr (.inl (vp_updL fVs M_valueMany.toNatClampNeg z_3.2)))), (aSg, .inl (cSg, 128, .inl fSg))]) hx hb hK hq 1 0 rfl rfl M_valueMany.toNatClampNeg (kk_cl v0) (kk_clt v0 v1) (by decide) dX8_stands_82 rfl (fun H locs hq => ?_)
      refine lv_aload_n hx hb dX8_stands_83 rfl (lv_at hl 1 rfl) ?_
      refine lv_dup hx hb dX8_stands_84 rfl ?_
      refine kk_get (ci := 8) (v := .int M_valueMany) (C := RX8) (T := TX8) (N := 22) hx hb hts iX8 hown hK hq 0 rfl rfl 7 (by decide) lk3_ rfl dX8_stands_85 ?_
      refine lv_iconst (v := 1) hx hb dX8_stands_88 (by decide) ?_
      refine lv_iadd hx hb dX8_stands_89 ?_
      refine kk_put (ws' := [(aM, .inr (8, [.ref rM_now, .ref rM_kept, .ref rM_isKept, .ref rM_refused, .int M_at, .int M_fault, .ref aVs, .int (M_valueMany + 1), .ref aSg, .int z_3.1, .long M_tells, .int M_way, .int M_wish, .long M_moreTick, .long M_moreForce, .int M_runTurns, .long M_runFirst, .long M_runLast, .ref rM_was, .long M_peak, .long M_beside, .int M_besideAt])), (aVs, .inl (cVs, 64, .inr (.inl (vp_updL fVs M_valueMany.toNatClampNeg z_3.2)))), (aSg, .inl (cSg, 128, .inl fSg))]) (ci := 8) (v := .int (M_valueMany + 1)) (C := RX8) (T := TX8) (N := 22) hx hb hts iX8 tyX8_ok nmX8 hown hK hq 0 rfl rfl 7 (by decide) lk3_ rfl rfl rfl (Nat.le_of_ble_eq_true rfl) dX8_stands_90 rfl (fun H locs hq => ?_)
      have hf : ((M_valueMany + 1, z_3.1, vp_updL fVs M_valueMany.toNatClampNeg z_3.2) : Int32 × Int32 × (Nat → Int64)) = fX8_stands p1 M_valueMany M_signMany fVs fSg := by
        exact ((congrArg (fun (z_3 : Int32 × Int64) => (((M_valueMany + 1, z_3.1, vp_updL fVs M_valueMany.toNatClampNeg z_3.2)) : Int32 × Int32 × (Nat → Int64))) ez_3.symm)).symm
      have en_0 : (M_valueMany + 1).toInt = M_valueMany.toInt + 1 := by exact kk_inc (x := M_valueMany) (by omega)
      have en_1 : 0 ≤ z_3.1.toInt := by first | assumption | omega
      have en_2 : z_3.1.toInt ≤ M_signMany.toInt := by first | assumption | omega
      have en_3 : bn_ fSg z_3.1.toNatClampNeg = bn_ fSg M_signMany.toNatClampNeg := by first | assumption | omega
      have en_4 : op_ fSg z_3.1.toNatClampNeg = op_ fSg M_signMany.toNatClampNeg := by first | assumption | omega
      have en_5 : z_3.1.toInt = 0 ∨ fSg (z_3.1 - 1).toNatClampNeg ≤ 1000 := by first | assumption | omega
      exact kk_ev hx hb hr hlocks hK hq [0, 1, 2] (M_valueMany + 1, z_3.1, vp_updL fVs M_valueMany.toNatClampNeg z_3.2) rfl (by decide) dX8_stands_93 ⟨hf, en_0, en_1, en_2, en_3, en_4, en_5⟩
    · skip
      have hsp := kk_nle2 (k := 0) rfl c_1
      have hd := dec_b (x := sm) (n := (128 : Nat)) rfl hsp (by omega)
      refine lv_aload_n hx hb dX8_stands_9 rfl (lv_at hl 1 rfl) ?_
      refine kk_get (ci := 8) (v := .ref aSg) (C := RX8) (T := TX8) (N := 22) hx hb hts iX8 hown hK hq 0 rfl rfl 8 (by decide) lk1_ rfl dX8_stands_10 ?_
      refine lv_aload_n hx hb dX8_stands_13 rfl (lv_at hl 1 rfl) ?_
      refine kk_get (ci := 8) (v := .int sm) (C := RX8) (T := TX8) (N := 22) hx hb hts iX8 hown hK hq 0 rfl rfl 9 (by decide) lk0_ rfl dX8_stands_14 ?_
      refine lv_iconst (v := 1) hx hb dX8_stands_17 (by decide) ?_
      refine lv_isub hx hb dX8_stands_18 ?_
      refine kk_iald hx hb hK hq 2 1 rfl rfl ((sm - 1).toNatClampNeg) (kk_cl hd.1) (kk_clt hd.1 hd.2.1) (by decide) dX8_stands_19 ?_
      refine lv_sipush (v := 1000) hx hb dX8_stands_20 (by decide) ?_
      refine lv_icmp_le (tgt := 73) hx hb dX8_stands_23 (by decide) (fun c_4 => ?_) (fun c_4 => ?_)
      · skip
        have hx6 : sm.toInt = 0 ∨ fSg (sm - 1).toNatClampNeg ≤ 1000 := Or.inr c_4
        have hx_5 : ((sm, wv) : Int32 × Int64) = lpX8_stands_2 fSg (129) M_signMany p1 := (hrel2.trans ((if_neg c_1).trans ((if_pos c_4)))).symm
        obtain ⟨z_6, gz_6⟩ : ∃ z : Int32 × Int64, z = (sm, wv) := ⟨_, rfl⟩
        have ez_6 : z_6 = lpX8_stands_2 fSg (129) M_signMany p1 := gz_6.trans hx_5
        have hl : lv_has ls 5 [(3, .long z_6.2), (0, .ref aM), (1, .long p1)] := by subst gz_6; exact hl
        have hq : kAt G A s [(aM, .inr (8, [.ref rM_now, .ref rM_kept, .ref rM_isKept, .ref rM_refused, .int M_at, .int M_fault, .ref aVs, .int M_valueMany, .ref aSg, .int z_6.1, .long M_tells, .int M_way, .int M_wish, .long M_moreTick, .long M_moreForce, .int M_runTurns, .long M_runFirst, .long M_runLast, .ref rM_was, .long M_peak, .long M_beside, .int M_besideAt])), (aVs, .inl (cVs, 64, .inr (.inl fVs))), (aSg, .inl (cSg, 128, .inl fSg))] H locs := by subst gz_6; exact hq
        have b2 : 0 ≤ z_6.1.toInt := by subst gz_6; exact r0
        have b3 : z_6.1.toInt ≤ M_signMany.toInt := by subst gz_6; exact r1
        have b4 : bn_ fSg z_6.1.toNatClampNeg = bn_ fSg M_signMany.toNatClampNeg := by subst gz_6; exact r2
        have b5 : op_ fSg z_6.1.toNatClampNeg = op_ fSg M_signMany.toNatClampNeg := by subst gz_6; exact r3
        have b6 : z_6.1.toInt = 0 ∨ fSg (z_6.1 - 1).toNatClampNeg ≤ 1000 := by subst gz_6; exact hx6
        refine lv_aload_n hx hb dX8_stands_73 rfl (lv_at hl 1 rfl) ?_
        refine kk_get (ci := 8) (v := .ref aVs) (C := RX8) (T := TX8) (N := 22) hx hb hts iX8 hown hK hq 0 rfl rfl 6 (by decide) lk2_ rfl dX8_stands_74 ?_
        refine lv_aload_n hx hb dX8_stands_77 rfl (lv_at hl 1 rfl) ?_
        refine kk_get (ci := 8) (v := .int M_valueMany) (C := RX8) (T := TX8) (N := 22) hx hb hts iX8 hown hK hq 0 rfl rfl 7 (by decide) lk3_ rfl dX8_stands_78 ?_
        refine lv_lload_n hx hb dX8_stands_81 rfl (lv_at hl 0 rfl) ?_
        refine kk_last (ws' := [(aM, .inr (8, [.ref rM_now, .ref rM_kept, .ref rM_isKept, .ref rM_refused, .int M_at, .int M_fault, .ref aVs, .int M_valueMany, .ref aSg, .int z_6.1, .long M_tells, .int M_way, .int M_wish, .long M_moreTick, .long M_moreForce, .int M_runTurns, .long M_runFirst, .long M_runLast, .ref rM_was, .long M_peak, .long M_beside, .int M_besideAt])), (aVs, .inl (cVs, 64, .inr (.inl (vp_updL fVs M_valueMany.toNatClampNeg z_6.2)))), (aSg, .inl (cSg, 128, .inl fSg))]) hx hb hK hq 1 0 rfl rfl M_valueMany.toNatClampNeg (kk_cl v0) (kk_clt v0 v1) (by decide) dX8_stands_82 rfl (fun H locs hq => ?_)
        refine lv_aload_n hx hb dX8_stands_83 rfl (lv_at hl 1 rfl) ?_
        refine lv_dup hx hb dX8_stands_84 rfl ?_
        refine kk_get (ci := 8) (v := .int M_valueMany) (C := RX8) (T := TX8) (N := 22) hx hb hts iX8 hown hK hq 0 rfl rfl 7 (by decide) lk3_ rfl dX8_stands_85 ?_
        refine lv_iconst (v := 1) hx hb dX8_stands_88 (by decide) ?_
        refine lv_iadd hx hb dX8_stands_89 ?_
        refine kk_put (ws' := [(aM, .inr (8, [.ref rM_now, .ref rM_kept, .ref rM_isKept, .ref rM_refused, .int M_at, .int M_fault, .ref aVs, .int (M_valueMany + 1), .ref aSg, .int z_6.1, .long M_tells, .int M_way, .int M_wish, .long M_moreTick, .long M_moreForce, .int M_runTurns, .long M_runFirst, .long M_runLast, .ref rM_was, .long M_peak, .long M_beside, .int M_besideAt])), (aVs, .inl (cVs, 64, .inr (.inl (vp_updL fVs M_valueMany.toNatClampNeg z_6.2)))), (aSg, .inl (cSg, 128, .inl fSg))]) (ci := 8) (v := .int (M_valueMany + 1)) (C := RX8) (T := TX8) (N := 22) hx hb hts iX8 tyX8_ok nmX8 hown hK hq 0 rfl rfl 7 (by decide) lk3_ rfl rfl rfl (Nat.le_of_ble_eq_true rfl) dX8_stands_90 rfl (fun H locs hq => ?_)
        have hf : ((M_valueMany + 1, z_6.1, vp_updL fVs M_valueMany.toNatClampNeg z_6.2) : Int32 × Int32 × (Nat → Int64)) = fX8_stands p1 M_valueMany M_signMany fVs fSg := by
          exact ((congrArg (fun (z_6 : Int32 × Int64) => (((M_valueMany + 1, z_6.1, vp_updL fVs M_valueMany.toNatClampNeg z_6.2)) : Int32 × Int32 × (Nat → Int64))) ez_6.symm)).symm
        have en_0 : (M_valueMany + 1).toInt = M_valueMany.toInt + 1 := by exact kk_inc (x := M_valueMany) (by omega)
        have en_1 : 0 ≤ z_6.1.toInt := by first | assumption | omega
        have en_2 : z_6.1.toInt ≤ M_signMany.toInt := by first | assumption | omega
        have en_3 : bn_ fSg z_6.1.toNatClampNeg = bn_ fSg M_signMany.toNatClampNeg := by first | assumption | omega
        have en_4 : op_ fSg z_6.1.toNatClampNeg = op_ fSg M_signMany.toNatClampNeg := by first | assumption | omega
        have en_5 : z_6.1.toInt = 0 ∨ fSg (z_6.1 - 1).toNatClampNeg ≤ 1000 := by first | assumption | omega
        exact kk_ev hx hb hr hlocks hK hq [0, 1, 2] (M_valueMany + 1, z_6.1, vp_updL fVs M_valueMany.toNatClampNeg z_6.2) rfl (by decide) dX8_stands_93 ⟨hf, en_0, en_1, en_2, en_3, en_4, en_5⟩
      · skip
        have hgt := kk_nle2 (k := 1000) rfl c_4
        refine lv_aload_n hx hb dX8_stands_26 rfl (lv_at hl 1 rfl) ?_
        refine kk_get (ci := 8) (v := .ref aSg) (C := RX8) (T := TX8) (N := 22) hx hb hts iX8 hown hK hq 0 rfl rfl 8 (by decide) lk1_ rfl dX8_stands_27 ?_
        refine lv_aload_n hx hb dX8_stands_30 rfl (lv_at hl 1 rfl) ?_
        refine kk_get (ci := 8) (v := .int sm) (C := RX8) (T := TX8) (N := 22) hx hb hts iX8 hown hK hq 0 rfl rfl 9 (by decide) lk0_ rfl dX8_stands_31 ?_
        refine lv_iconst (v := 1) hx hb dX8_stands_34 (by decide) ?_
        refine lv_isub hx hb dX8_stands_35 ?_
        refine kk_iald hx hb hK hq 2 1 rfl rfl ((sm - 1).toNatClampNeg) (kk_cl hd.1) (kk_clt hd.1 hd.2.1) (by decide) dX8_stands_36 ?_
        refine lv_sipush (v := 1001) hx hb dX8_stands_37 (by decide) ?_
        refine kk_join1 (fun (z0_8 : Int64) (H : Heap) (locs : List Loc) (ls : Array Slot) => z0_8 = (if fSg ((sm - 1).toNatClampNeg) = 1001 then if wv = 0 then 1 else 0 else -wv) ∧ lv_has ls 5 [(3, .long wv), (0, .ref aM), (1, .long p1)] ∧ kAt G A s [(aM, .inr (8, [.ref rM_now, .ref rM_kept, .ref rM_isKept, .ref rM_refused, .int M_at, .int M_fault, .ref aVs, .int M_valueMany, .ref aSg, .int sm, .long M_tells, .int M_way, .int M_wish, .long M_moreTick, .long M_moreForce, .int M_runTurns, .long M_runFirst, .long M_runLast, .ref rM_was, .long M_peak, .long M_beside, .int M_besideAt])), (aVs, .inl (cVs, 64, .inr (.inl fVs))), (aSg, .inl (cSg, 128, .inl fSg))] H locs) 59 (fun z0_8 => [.long z0_8]) (fun z0_8 H locs ls hv => ?_) (fun J_9 => ?_)
        · skip
          obtain ⟨ez0_8, hl, hq⟩ := hv
          refine lv_lstore_n (lv' := [(3, .long z0_8), (0, .ref aM), (1, .long p1)]) hx hb dX8_stands_59 rfl hl (by decide) rfl (fun ls hl => ?_)
          refine lv_aload_n hx hb dX8_stands_60 rfl (lv_at hl 1 rfl) ?_
          refine lv_dup hx hb dX8_stands_61 rfl ?_
          refine kk_get (ci := 8) (v := .int sm) (C := RX8) (T := TX8) (N := 22) hx hb hts iX8 hown hK hq 0 rfl rfl 9 (by decide) lk0_ rfl dX8_stands_62 ?_
          refine lv_iconst (v := 1) hx hb dX8_stands_65 (by decide) ?_
          refine lv_isub hx hb dX8_stands_66 ?_
          refine kk_put (ws' := [(aM, .inr (8, [.ref rM_now, .ref rM_kept, .ref rM_isKept, .ref rM_refused, .int M_at, .int M_fault, .ref aVs, .int M_valueMany, .ref aSg, .int (sm - 1), .long M_tells, .int M_way, .int M_wish, .long M_moreTick, .long M_moreForce, .int M_runTurns, .long M_runFirst, .long M_runLast, .ref rM_was, .long M_peak, .long M_beside, .int M_besideAt])), (aVs, .inl (cVs, 64, .inr (.inl fVs))), (aSg, .inl (cSg, 128, .inl fSg))]) (ci := 8) (v := .int (sm - 1)) (C := RX8) (T := TX8) (N := 22) hx hb hts iX8 tyX8_ok nmX8 hown hK hq 0 rfl rfl 9 (by decide) lk0_ rfl rfl rfl (Nat.le_of_ble_eq_true rfl) dX8_stands_67 rfl (fun H locs hq => ?_)
          refine lv_goto (tgt := 2) hx hb dX8_stands_70 (by decide) ?_
          exact ih2 (sm - 1) z0_8 _ _ _ ⟨(hrel2.trans ((if_neg c_1).trans ((if_neg c_4).trans ((congrArg (fun (z0_8 : Int64) => ((lpX8_stands_2 fSg N2 (sm - 1) z0_8) : Int32 × Int64)) ez0_8.symm))))), (by omega), (by omega), (by rw [bn_pop hsp hgt]; exact r2), (by rw [op_pop hsp (by omega)]; exact r3), (by omega), lv_sub hl [0, 1, 2] rfl, hq⟩
        · skip
          refine lv_icmp_ne (tgt := 57) hx hb dX8_stands_40 (by decide) (fun c_7 => ?_) (fun c_7 => ?_)
          · skip
            refine lv_lload_n hx hb dX8_stands_57 rfl (lv_at hl 0 rfl) ?_
            refine lv_lneg hx hb dX8_stands_58 ?_
            exact J_9 (-wv) _ _ _ ⟨(if_neg c_7).symm, lv_sub hl [0, 1, 2] rfl, hq⟩
          · skip
            refine lv_lload_n hx hb dX8_stands_43 rfl (lv_at hl 0 rfl) ?_
            refine lv_lconst (v := 0) hx hb dX8_stands_44 (by decide) ?_
            refine kk_lc_ne (tgt := 53) hx hb dX8_stands_45 dX8_stands_46 (by decide) (fun c_10 => ?_) (fun c_10 => ?_)
            · skip
              refine lv_lconst (v := 0) hx hb dX8_stands_53 (by decide) ?_
              refine lv_goto (tgt := 59) hx hb dX8_stands_54 (by decide) ?_
              exact J_9 0 _ _ _ ⟨((if_pos c_7).trans (if_neg c_10)).symm, lv_sub hl [0, 1, 2] rfl, hq⟩
            · skip
              refine lv_lconst (v := 1) hx hb dX8_stands_49 (by decide) ?_
              refine lv_goto (tgt := 59) hx hb dX8_stands_50 (by decide) ?_
              exact J_9 1 _ _ _ ⟨((if_pos c_7).trans (if_pos c_10)).symm, lv_sub hl [0, 1, 2] rfl, hq⟩

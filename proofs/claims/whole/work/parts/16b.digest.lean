theorem hd_X3_digestOnto : yX3_digestOnto.cls = RX3 ∧ yX3_digestOnto.cls ≠ "java/lang/invoke/MethodHandle" ∧ yX3_digestOnto.cls ≠ "java/lang/invoke/VarHandle" ∧ (parseMethodDescriptor yX3_digestOnto.desc).map (fun d => d.parameters.length) = some 1 := by decide +kernel
theorem hd_X5_digestOnto : yX5_digestOnto.cls = RX5 ∧ yX5_digestOnto.cls ≠ "java/lang/invoke/MethodHandle" ∧ yX5_digestOnto.cls ≠ "java/lang/invoke/VarHandle" ∧ (parseMethodDescriptor yX5_digestOnto.desc).map (fun d => d.parameters.length) = some 1 := by decide +kernel
def lpX7_digest_6 (fN : Nat → Int32) : Nat → Int32 → Int64 → Int32 × Int64
  | 0, _, _ => (0, 0)
  | N + 1, i, h =>
    if 8 ≤ i then (
    (i, h))
    else (
    let x1_2 : Int64 := (31 * h) + ((fN i.toNatClampNeg).toInt64)
    lpX7_digest_6 fN N (i + 1) x1_2)

def lpX7_digest_61 (C_place : Int64) (C_speed : Int64) (C_posture : Int32) (C_since : Int32) (C_height : Int32) (C_ticks : Int32) (C_strength : Int32) (C_drops : Int32) (C_greatestDrop : Int32) (C_otherPlace : Int64) (C_otherSpeed : Int64) (U_count : Int32) : Nat → Int32 → Int64 → Int32 × Int64
  | 0, _, _ => (0, 0)
  | N + 1, i, h =>
    if 12 ≤ i then (
    (i, h))
    else (
    let r_12 : Int32 := fX7_valueTold i C_place C_speed C_posture C_since C_height C_ticks C_strength C_drops C_greatestDrop C_otherPlace C_otherSpeed U_count
    let x1_14 : Int64 := (31 * h) + r_12.toInt64
    lpX7_digest_61 C_place C_speed C_posture C_since C_height C_ticks C_strength C_drops C_greatestDrop C_otherPlace C_otherSpeed U_count N (i + 1) x1_14)

def lpX7_digest_88 (U_count : Int32) (fUH : Nat → Int32) : Nat → Int32 → Int64 → Int32 × Int64
  | 0, _, _ => (0, 0)
  | N + 1, i, h =>
    if 40 ≤ i then (
    (i, h))
    else (
    let r_15 : Int32 := fX6_beforeLast i U_count fUH
    let x1_17 : Int64 := (31 * h) + r_15.toInt64
    lpX7_digest_88 U_count fUH N (i + 1) x1_17)

def fX7_digest (fN : Nat → Int32) (T_length : Int32) (fTS : Nat → Int32) (P_count : Int32) (fPT : Nat → Int32) (fPF : Nat → Int32) (C_place : Int64) (C_speed : Int64) (C_posture : Int32) (C_since : Int32) (C_height : Int32) (C_ticks : Int32) (C_strength : Int32) (C_drops : Int32) (C_greatestDrop : Int32) (C_otherPlace : Int64) (C_otherSpeed : Int64) (U_count : Int32) (fUH : Nat → Int32) : Int64 :=
  let z_3 : Int32 × Int64 := lpX7_digest_6 fN (9) 0 487
  let r_5 : Int64 := fX5_digestOnto z_3.2 T_length fTS
  let r_8 : Int64 := fX3_digestOnto r_5 P_count fPT fPF
  let z_12 : Int32 × Int64 := lpX7_digest_61 C_place C_speed C_posture C_since C_height C_ticks C_strength C_drops C_greatestDrop C_otherPlace C_otherSpeed U_count (13) 0 r_8
  let z_15 : Int32 × Int64 := lpX7_digest_88 U_count fUH (41) 0 z_12.2
  z_15.2

set_option maxHeartbeats 4000000 in
set_option maxRecDepth 100000 in
theorem c_X7_digest (l : Launch) (G : va_G) (aY aS aN aT aTS aP aPT aPF aC aU aUH rY_images rY_kept rY_law rY_reader rY_trial rY_stages rY_row rY_bestRow : Nat) (cN cTS cPT cPF cUH : ClassId) (Y_bestPeak : Int32) (Y_bads : Int32) (Y_noes : Int32) (Y_fulls : Int32) (fN : Nat → Int32) (T_length : Int32) (fTS : Nat → Int32) (P_count : Int32) (fPT : Nat → Int32) (fPF : Nat → Int32) (C_place : Int64) (C_speed : Int64) (C_posture : Int32) (C_since : Int32) (C_height : Int32) (C_ticks : Int32) (C_way : Int32) (C_strength : Int32) (C_drops : Int32) (C_greatestDrop : Int32) (C_otherPlace : Int64) (C_otherSpeed : Int64) (U_count : Int32) (fUH : Nat → Int32) (n1 : T_length.toInt ≤ 60) (u0 : 0 ≤ U_count.toInt) : kCl l yX7_digest (Cond.code yX7_digest cX7_digest 4 (some .long) :: wsL_law) ({ frames := 2, cells := 0, slots := 0, locals := 46 }) G [(cN, .int), (cTS, .int), (cPT, .int), (cPF, .int), (cUH, .int)] [.ref aY] [(aY, .inr (7, [.ref aS, .ref rY_images, .ref rY_kept, .ref rY_law, .ref rY_reader, .ref rY_trial, .ref rY_stages, .ref rY_row, .ref rY_bestRow, .int Y_bestPeak, .int Y_bads, .int Y_noes, .int Y_fulls])), (aS, .inr (4, [.ref aN, .ref aT, .ref aP, .ref aC, .ref aU])), (aN, .inl (cN, 8, .inl fN)), (aT, .inr (5, [.ref aTS, .int T_length])), (aTS, .inl (cTS, 60, .inl fTS)), (aP, .inr (3, [.ref aPT, .ref aPF, .int P_count])), (aPT, .inl (cPT, 8, .inl fPT)), (aPF, .inl (cPF, 8, .inl fPF)), (aC, .inr (0, [.long C_place, .long C_speed, .int C_posture, .int C_since, .int C_height, .int C_ticks, .int C_way, .int C_strength, .int C_drops, .int C_greatestDrop, .long C_otherPlace, .long C_otherSpeed])), (aU, .inr (6, [.ref aUH, .int U_count])), (aUH, .inl (cUH, 40, .inl fUH))] (fun (r : Int64) (_ : Unit) => r = fX7_digest fN T_length fTS P_count fPT fPF C_place C_speed C_posture C_since C_height C_ticks C_strength C_drops C_greatestDrop C_otherPlace C_otherSpeed U_count fUH) (fun (_ : Unit) => [(aY, .inr (7, [.ref aS, .ref rY_images, .ref rY_kept, .ref rY_law, .ref rY_reader, .ref rY_trial, .ref rY_stages, .ref rY_row, .ref rY_bestRow, .int Y_bestPeak, .int Y_bads, .int Y_noes, .int Y_fulls])), (aS, .inr (4, [.ref aN, .ref aT, .ref aP, .ref aC, .ref aU])), (aN, .inl (cN, 8, .inl fN)), (aT, .inr (5, [.ref aTS, .int T_length])), (aTS, .inl (cTS, 60, .inl fTS)), (aP, .inr (3, [.ref aPT, .ref aPF, .int P_count])), (aPT, .inl (cPT, 8, .inl fPT)), (aPF, .inl (cPF, 8, .inl fPF)), (aC, .inr (0, [.long C_place, .long C_speed, .int C_posture, .int C_since, .int C_height, .int C_ticks, .int C_way, .int C_strength, .int C_drops, .int C_greatestDrop, .long C_otherPlace, .long C_otherSpeed])), (aU, .inr (6, [.ref aUH, .int U_count])), (aUH, .inl (cUH, 40, .inl fUH))]) := by
  intro sz
  refine Met.ofW (cc := cX7_digest) (maxL := 4) (ret := (some .long)) (by decide) rfl ?_
  intro p e s m args below meth c s₁ B hml hv
  obtain ⟨rfl, hv⟩ := hv
  obtain ⟨rfl, hK, hq, hA⟩ := kk_begin hv
  have hx := B.exec
  have hb := B.bytes
  have hr := B.returns
  have hts := atoms_spec (ws := (Cond.code yX7_digest cX7_digest 4 (some .long) :: wsL_law)) B.pre
  have hown : s.vm.findClass RX7 = some m.cls := findClass_of_methodNamed B.named
  have hlocks := B.notSynchronized
  have hsb : ∀ w ∈ wsL_law, w ∈ (Cond.code yX7_digest cX7_digest 4 (some .long) :: wsL_law) := fun _ h => List.mem_cons_of_mem _ h
  generalize va_A [(aY, .inr (7, [.ref aS, .ref rY_images, .ref rY_kept, .ref rY_law, .ref rY_reader, .ref rY_trial, .ref rY_stages, .ref rY_row, .ref rY_bestRow, .int Y_bestPeak, .int Y_bads, .int Y_noes, .int Y_fulls])), (aS, .inr (4, [.ref aN, .ref aT, .ref aP, .ref aC, .ref aU])), (aN, .inl (cN, 8, .inl fN)), (aT, .inr (5, [.ref aTS, .int T_length])), (aTS, .inl (cTS, 60, .inl fTS)), (aP, .inr (3, [.ref aPT, .ref aPF, .int P_count])), (aPT, .inl (cPT, 8, .inl fPT)), (aPF, .inl (cPF, 8, .inl fPF)), (aC, .inr (0, [.long C_place, .long C_speed, .int C_posture, .int C_since, .int C_height, .int C_ticks, .int C_way, .int C_strength, .int C_drops, .int C_greatestDrop, .long C_otherPlace, .long C_otherSpeed])), (aU, .inr (6, [.ref aUH, .int U_count])), (aUH, .inl (cUH, 40, .inl fUH))] s.heap.size = A at hq hA ⊢
  have iX4 : ∀ w ∈ u_ws RX4 TX4 5, w ∈ (Cond.code yX7_digest cX7_digest 4 (some .long) :: wsL_law) := fun w h => hsb w (bin_X4 w h)
  have iX7 : ∀ w ∈ u_ws RX7 TX7 13, w ∈ (Cond.code yX7_digest cX7_digest 4 (some .long) :: wsL_law) := fun w h => hsb w (bin_X7 w h)
  have lk0_ := hts _ (hsb _ wd_841)
  have lk1_ := hts _ (hsb _ wd_842)
  have lk2_ := hts _ (hsb _ wd_15)
  have lk3_ := hts _ (hsb _ wd_135)
  have lk4_ := hts _ (hsb _ wd_26)
  have lk5_ := hts _ (hsb _ wd_332)
  have lk6_ := hts _ (hsb _ wd_370)
  have hl := lv_entry ([.ref aY]) (n := 4) (Nat.le_of_ble_eq_true rfl)
  rw [lg_entry_eq]
  generalize (lg_sl ([.ref aY]) ++ List.replicate (4 - (lg_sl ([.ref aY])).length) Slot.unset).toArray = ls at hl ⊢
  have hl : lv_has ls 4 [(0, .ref aY)] := hl
  refine lv_ldc2 hx hb hown lk0_ dX7_digest_0 ?_
  refine lv_lstore_n (lv' := [(1, .long 487), (0, .ref aY)]) hx hb dX7_digest_3 rfl hl (by decide) rfl (fun ls hl => ?_)
  refine lv_iconst (v := 0) hx hb dX7_digest_4 (by decide) ?_
  refine lv_istore_n (lv' := [(3, .int 0), (1, .long 487), (0, .ref aY)]) hx hb dX7_digest_5 rfl hl (by decide) rfl (fun ls hl => ?_)
  refine kk_loop2 (fun N6 (i : Int32) (h : Int64) (H : Heap) (locs : List Loc) (ls : Array Slot) => lpX7_digest_6 fN (9) 0 487 = lpX7_digest_6 fN N6 i h ∧ (0 ≤ i.toInt) ∧ (i.toInt ≤ 8) ∧ (i.toInt + N6 = 9) ∧ lv_has ls 4 [(3, .int i), (1, .long h), (0, .ref aY)] ∧ kAt G A s [(aY, .inr (7, [.ref aS, .ref rY_images, .ref rY_kept, .ref rY_law, .ref rY_reader, .ref rY_trial, .ref rY_stages, .ref rY_row, .ref rY_bestRow, .int Y_bestPeak, .int Y_bads, .int Y_noes, .int Y_fulls])), (aS, .inr (4, [.ref aN, .ref aT, .ref aP, .ref aC, .ref aU])), (aN, .inl (cN, 8, .inl fN)), (aT, .inr (5, [.ref aTS, .int T_length])), (aTS, .inl (cTS, 60, .inl fTS)), (aP, .inr (3, [.ref aPT, .ref aPF, .int P_count])), (aPT, .inl (cPT, 8, .inl fPT)), (aPF, .inl (cPF, 8, .inl fPF)), (aC, .inr (0, [.long C_place, .long C_speed, .int C_posture, .int C_since, .int C_height, .int C_ticks, .int C_way, .int C_strength, .int C_drops, .int C_greatestDrop, .long C_otherPlace, .long C_otherSpeed])), (aU, .inr (6, [.ref aUH, .int U_count])), (aUH, .inl (cUH, 40, .inl fUH))] H locs) 6 (fun i h => []) (fun i h H locs ls hv => ?_) (fun N6 i h H locs ls ih6 hv => ?_) (9) 0 487 _ _ _ ⟨rfl, (by decide), (by decide), (by decide), lv_sub hl [0, 1, 2] rfl, hq⟩
  · skip
    obtain ⟨hrel6, i0, i1, hN, hl, hq⟩ := hv
    omega
  · skip
    obtain ⟨hrel6, i0, i1, hN, hl, hq⟩ := hv
    refine lv_iload_n hx hb dX7_digest_6 rfl (lv_at hl 0 rfl) ?_
    refine lv_bipush (v := 8) hx hb dX7_digest_7 (by decide) ?_
    refine lv_icmp_ge (tgt := 35) hx hb dX7_digest_9 (by decide) (fun c_1 => ?_) (fun c_1 => ?_)
    · skip
      have hx_2 : ((i, h) : Int32 × Int64) = lpX7_digest_6 fN (9) 0 487 := (hrel6.trans ((if_pos c_1))).symm
      obtain ⟨z_3, gz_3⟩ : ∃ z : Int32 × Int64, z = (i, h) := ⟨_, rfl⟩
      have ez_3 : z_3 = lpX7_digest_6 fN (9) 0 487 := gz_3.trans hx_2
      have hl : lv_has ls 4 [(3, .int z_3.1), (1, .long z_3.2), (0, .ref aY)] := by subst gz_3; exact hl
      have hq : kAt G A s [(aY, .inr (7, [.ref aS, .ref rY_images, .ref rY_kept, .ref rY_law, .ref rY_reader, .ref rY_trial, .ref rY_stages, .ref rY_row, .ref rY_bestRow, .int Y_bestPeak, .int Y_bads, .int Y_noes, .int Y_fulls])), (aS, .inr (4, [.ref aN, .ref aT, .ref aP, .ref aC, .ref aU])), (aN, .inl (cN, 8, .inl fN)), (aT, .inr (5, [.ref aTS, .int T_length])), (aTS, .inl (cTS, 60, .inl fTS)), (aP, .inr (3, [.ref aPT, .ref aPF, .int P_count])), (aPT, .inl (cPT, 8, .inl fPT)), (aPF, .inl (cPF, 8, .inl fPF)), (aC, .inr (0, [.long C_place, .long C_speed, .int C_posture, .int C_since, .int C_height, .int C_ticks, .int C_way, .int C_strength, .int C_drops, .int C_greatestDrop, .long C_otherPlace, .long C_otherSpeed])), (aU, .inr (6, [.ref aUH, .int U_count])), (aUH, .inl (cUH, 40, .inl fUH))] H locs := by subst gz_3; exact hq
      refine lv_aload_n hx hb dX7_digest_35 rfl (lv_at hl 2 rfl) ?_
      refine kk_get (ci := 7) (v := .ref aS) (C := RX7) (T := TX7) (N := 13) hx hb hts iX7 hown hK hq 0 rfl rfl 0 (by decide) lk2_ rfl dX7_digest_36 ?_
      refine kk_get (ci := 4) (v := .ref aT) (C := RX4) (T := TX4) (N := 5) hx hb hts iX4 hown hK hq 1 rfl rfl 1 (by decide) lk4_ rfl dX7_digest_39 ?_
      refine lv_lload_n hx hb dX7_digest_42 rfl (lv_at hl 1 rfl) ?_
      refine kk_Vl (As := [.long z_3.2]) (rest := []) (wr := [(aY, .inr (7, [.ref aS, .ref rY_images, .ref rY_kept, .ref rY_law, .ref rY_reader, .ref rY_trial, .ref rY_stages, .ref rY_row, .ref rY_bestRow, .int Y_bestPeak, .int Y_bads, .int Y_noes, .int Y_fulls])), (aS, .inr (4, [.ref aN, .ref aT, .ref aP, .ref aC, .ref aU])), (aN, .inl (cN, 8, .inl fN)), (aP, .inr (3, [.ref aPT, .ref aPF, .int P_count])), (aPT, .inl (cPT, 8, .inl fPT)), (aPF, .inl (cPF, 8, .inl fPF)), (aC, .inr (0, [.long C_place, .long C_speed, .int C_posture, .int C_since, .int C_height, .int C_ticks, .int C_way, .int C_strength, .int C_drops, .int C_greatestDrop, .long C_otherPlace, .long C_otherSpeed])), (aU, .inr (6, [.ref aUH, .int U_count])), (aUH, .inl (cUH, 40, .inl fUH))]) ⟨hx, hb, hml, hown, hts⟩ (c_X5_digestOnto l G aT aTS cTS z_3.2 T_length fTS (by assumption)) (kk_cwV 1 hts hsb wd_843 wd_844 wd_845 wd_52 wd_846 rfl rfl hd_X5_digestOnto ⟨Nat.le_of_ble_eq_true rfl, Nat.le_of_ble_eq_true rfl⟩) hA hK hq [3, 4] [0, 1, 2, 5, 6, 7, 8, 9, 10] [1] rfl rfl rfl (by decide) (by decide) (by decide) 0 5 rfl rfl rfl rfl hl.1 rfl (Nat.le_of_ble_eq_true rfl) dX7_digest_43 ⟨Nat.zero_le _, Nat.zero_le _⟩ (fun r_5 u_4 H locs h_6 hq => ?_)
      have er_5 := h_6
      have hq : kAt G A s [(aY, .inr (7, [.ref aS, .ref rY_images, .ref rY_kept, .ref rY_law, .ref rY_reader, .ref rY_trial, .ref rY_stages, .ref rY_row, .ref rY_bestRow, .int Y_bestPeak, .int Y_bads, .int Y_noes, .int Y_fulls])), (aS, .inr (4, [.ref aN, .ref aT, .ref aP, .ref aC, .ref aU])), (aN, .inl (cN, 8, .inl fN)), (aP, .inr (3, [.ref aPT, .ref aPF, .int P_count])), (aPT, .inl (cPT, 8, .inl fPT)), (aPF, .inl (cPF, 8, .inl fPF)), (aC, .inr (0, [.long C_place, .long C_speed, .int C_posture, .int C_since, .int C_height, .int C_ticks, .int C_way, .int C_strength, .int C_drops, .int C_greatestDrop, .long C_otherPlace, .long C_otherSpeed])), (aU, .inr (6, [.ref aUH, .int U_count])), (aUH, .inl (cUH, 40, .inl fUH)), (aT, .inr (5, [.ref aTS, .int T_length])), (aTS, .inl (cTS, 60, .inl fTS))] H locs := hq
      refine lv_lstore_n (lv' := [(1, .long r_5), (3, .int z_3.1), (0, .ref aY)]) hx hb dX7_digest_46 rfl hl (by decide) rfl (fun ls hl => ?_)
      refine lv_aload_n hx hb dX7_digest_47 rfl (lv_at hl 2 rfl) ?_
      refine kk_get (ci := 7) (v := .ref aS) (C := RX7) (T := TX7) (N := 13) hx hb hts iX7 hown hK hq 0 rfl rfl 0 (by decide) lk2_ rfl dX7_digest_48 ?_
      refine kk_get (ci := 4) (v := .ref aP) (C := RX4) (T := TX4) (N := 5) hx hb hts iX4 hown hK hq 1 rfl rfl 2 (by decide) lk5_ rfl dX7_digest_51 ?_
      refine lv_lload_n hx hb dX7_digest_54 rfl (lv_at hl 0 rfl) ?_
      refine kk_Vl (As := [.long r_5]) (rest := []) (wr := [(aY, .inr (7, [.ref aS, .ref rY_images, .ref rY_kept, .ref rY_law, .ref rY_reader, .ref rY_trial, .ref rY_stages, .ref rY_row, .ref rY_bestRow, .int Y_bestPeak, .int Y_bads, .int Y_noes, .int Y_fulls])), (aS, .inr (4, [.ref aN, .ref aT, .ref aP, .ref aC, .ref aU])), (aN, .inl (cN, 8, .inl fN)), (aC, .inr (0, [.long C_place, .long C_speed, .int C_posture, .int C_since, .int C_height, .int C_ticks, .int C_way, .int C_strength, .int C_drops, .int C_greatestDrop, .long C_otherPlace, .long C_otherSpeed])), (aU, .inr (6, [.ref aUH, .int U_count])), (aUH, .inl (cUH, 40, .inl fUH)), (aT, .inr (5, [.ref aTS, .int T_length])), (aTS, .inl (cTS, 60, .inl fTS))]) ⟨hx, hb, hml, hown, hts⟩ (c_X3_digestOnto l G aP aPT aPF cPT cPF r_5 P_count fPT fPF) (kk_cwV 1 hts hsb wd_849 wd_850 wd_851 wd_56 wd_852 rfl rfl hd_X3_digestOnto ⟨Nat.le_of_ble_eq_true rfl, Nat.le_of_ble_eq_true rfl⟩) hA hK hq [3, 4, 5] [0, 1, 2, 6, 7, 8, 9, 10] [2, 3] rfl rfl rfl (by decide) (by decide) (by decide) 0 3 rfl rfl rfl rfl hl.1 rfl (Nat.le_of_ble_eq_true rfl) dX7_digest_55 ⟨Nat.zero_le _, Nat.zero_le _⟩ (fun r_8 u_7 H locs h_9 hq => ?_)
      have er_8 := h_9
      have hq : kAt G A s [(aY, .inr (7, [.ref aS, .ref rY_images, .ref rY_kept, .ref rY_law, .ref rY_reader, .ref rY_trial, .ref rY_stages, .ref rY_row, .ref rY_bestRow, .int Y_bestPeak, .int Y_bads, .int Y_noes, .int Y_fulls])), (aS, .inr (4, [.ref aN, .ref aT, .ref aP, .ref aC, .ref aU])), (aN, .inl (cN, 8, .inl fN)), (aC, .inr (0, [.long C_place, .long C_speed, .int C_posture, .int C_since, .int C_height, .int C_ticks, .int C_way, .int C_strength, .int C_drops, .int C_greatestDrop, .long C_otherPlace, .long C_otherSpeed])), (aU, .inr (6, [.ref aUH, .int U_count])), (aUH, .inl (cUH, 40, .inl fUH)), (aT, .inr (5, [.ref aTS, .int T_length])), (aTS, .inl (cTS, 60, .inl fTS)), (aP, .inr (3, [.ref aPT, .ref aPF, .int P_count])), (aPT, .inl (cPT, 8, .inl fPT)), (aPF, .inl (cPF, 8, .inl fPF))] H locs := hq
      refine lv_lstore_n (lv' := [(1, .long r_8), (3, .int z_3.1), (0, .ref aY)]) hx hb dX7_digest_58 rfl hl (by decide) rfl (fun ls hl => ?_)
      refine lv_iconst (v := 0) hx hb dX7_digest_59 (by decide) ?_
      refine lv_istore_n (lv' := [(3, .int 0), (1, .long r_8), (0, .ref aY)]) hx hb dX7_digest_60 rfl hl (by decide) rfl (fun ls hl => ?_)
      refine kk_loop2 (fun N61 (i : Int32) (h : Int64) (H : Heap) (locs : List Loc) (ls : Array Slot) => lpX7_digest_61 C_place C_speed C_posture C_since C_height C_ticks C_strength C_drops C_greatestDrop C_otherPlace C_otherSpeed U_count (13) 0 r_8 = lpX7_digest_61 C_place C_speed C_posture C_since C_height C_ticks C_strength C_drops C_greatestDrop C_otherPlace C_otherSpeed U_count N61 i h ∧ (0 ≤ i.toInt) ∧ (i.toInt ≤ 12) ∧ (i.toInt + N61 = 13) ∧ lv_has ls 4 [(3, .int i), (1, .long h), (0, .ref aY)] ∧ kAt G A s [(aY, .inr (7, [.ref aS, .ref rY_images, .ref rY_kept, .ref rY_law, .ref rY_reader, .ref rY_trial, .ref rY_stages, .ref rY_row, .ref rY_bestRow, .int Y_bestPeak, .int Y_bads, .int Y_noes, .int Y_fulls])), (aS, .inr (4, [.ref aN, .ref aT, .ref aP, .ref aC, .ref aU])), (aN, .inl (cN, 8, .inl fN)), (aC, .inr (0, [.long C_place, .long C_speed, .int C_posture, .int C_since, .int C_height, .int C_ticks, .int C_way, .int C_strength, .int C_drops, .int C_greatestDrop, .long C_otherPlace, .long C_otherSpeed])), (aU, .inr (6, [.ref aUH, .int U_count])), (aUH, .inl (cUH, 40, .inl fUH)), (aT, .inr (5, [.ref aTS, .int T_length])), (aTS, .inl (cTS, 60, .inl fTS)), (aP, .inr (3, [.ref aPT, .ref aPF, .int P_count])), (aPT, .inl (cPT, 8, .inl fPT)), (aPF, .inl (cPF, 8, .inl fPF))] H locs) 61 (fun i h => []) (fun i h H locs ls hv => ?_) (fun N61 i h H locs ls ih61 hv => ?_) (13) 0 r_8 _ _ _ ⟨rfl, (by decide), (by decide), (by decide), lv_sub hl [0, 1, 2] rfl, hq⟩
      · skip
        obtain ⟨hrel61, i0, i1, hN, hl, hq⟩ := hv
        omega
      · skip
        obtain ⟨hrel61, i0, i1, hN, hl, hq⟩ := hv
        refine lv_iload_n hx hb dX7_digest_61 rfl (lv_at hl 0 rfl) ?_
        refine lv_bipush (v := 12) hx hb dX7_digest_62 (by decide) ?_
        refine lv_icmp_ge (tgt := 86) hx hb dX7_digest_64 (by decide) (fun c_10 => ?_) (fun c_10 => ?_)
        · skip
          have hx_11 : ((i, h) : Int32 × Int64) = lpX7_digest_61 C_place C_speed C_posture C_since C_height C_ticks C_strength C_drops C_greatestDrop C_otherPlace C_otherSpeed U_count (13) 0 r_8 := (hrel61.trans ((if_pos c_10))).symm
          obtain ⟨z_12, gz_12⟩ : ∃ z : Int32 × Int64, z = (i, h) := ⟨_, rfl⟩
          have ez_12 : z_12 = lpX7_digest_61 C_place C_speed C_posture C_since C_height C_ticks C_strength C_drops C_greatestDrop C_otherPlace C_otherSpeed U_count (13) 0 r_8 := gz_12.trans hx_11
          have hl : lv_has ls 4 [(3, .int z_12.1), (1, .long z_12.2), (0, .ref aY)] := by subst gz_12; exact hl
          have hq : kAt G A s [(aY, .inr (7, [.ref aS, .ref rY_images, .ref rY_kept, .ref rY_law, .ref rY_reader, .ref rY_trial, .ref rY_stages, .ref rY_row, .ref rY_bestRow, .int Y_bestPeak, .int Y_bads, .int Y_noes, .int Y_fulls])), (aS, .inr (4, [.ref aN, .ref aT, .ref aP, .ref aC, .ref aU])), (aN, .inl (cN, 8, .inl fN)), (aC, .inr (0, [.long C_place, .long C_speed, .int C_posture, .int C_since, .int C_height, .int C_ticks, .int C_way, .int C_strength, .int C_drops, .int C_greatestDrop, .long C_otherPlace, .long C_otherSpeed])), (aU, .inr (6, [.ref aUH, .int U_count])), (aUH, .inl (cUH, 40, .inl fUH)), (aT, .inr (5, [.ref aTS, .int T_length])), (aTS, .inl (cTS, 60, .inl fTS)), (aP, .inr (3, [.ref aPT, .ref aPF, .int P_count])), (aPT, .inl (cPT, 8, .inl fPT)), (aPF, .inl (cPF, 8, .inl fPF))] H locs := by subst gz_12; exact hq
          refine lv_iconst (v := 0) hx hb dX7_digest_86 (by decide) ?_
          refine lv_istore_n (lv' := [(3, .int 0), (1, .long z_12.2), (0, .ref aY)]) hx hb dX7_digest_87 rfl hl (by decide) rfl (fun ls hl => ?_)
          refine kk_loop2 (fun N88 (i : Int32) (h : Int64) (H : Heap) (locs : List Loc) (ls : Array Slot) => lpX7_digest_88 U_count fUH (41) 0 z_12.2 = lpX7_digest_88 U_count fUH N88 i h ∧ (0 ≤ i.toInt) ∧ (i.toInt ≤ 40) ∧ (i.toInt + N88 = 41) ∧ lv_has ls 4 [(3, .int i), (1, .long h), (0, .ref aY)] ∧ kAt G A s [(aY, .inr (7, [.ref aS, .ref rY_images, .ref rY_kept, .ref rY_law, .ref rY_reader, .ref rY_trial, .ref rY_stages, .ref rY_row, .ref rY_bestRow, .int Y_bestPeak, .int Y_bads, .int Y_noes, .int Y_fulls])), (aS, .inr (4, [.ref aN, .ref aT, .ref aP, .ref aC, .ref aU])), (aN, .inl (cN, 8, .inl fN)), (aC, .inr (0, [.long C_place, .long C_speed, .int C_posture, .int C_since, .int C_height, .int C_ticks, .int C_way, .int C_strength, .int C_drops, .int C_greatestDrop, .long C_otherPlace, .long C_otherSpeed])), (aU, .inr (6, [.ref aUH, .int U_count])), (aUH, .inl (cUH, 40, .inl fUH)), (aT, .inr (5, [.ref aTS, .int T_length])), (aTS, .inl (cTS, 60, .inl fTS)), (aP, .inr (3, [.ref aPT, .ref aPF, .int P_count])), (aPT, .inl (cPT, 8, .inl fPT)), (aPF, .inl (cPF, 8, .inl fPF))] H locs) 88 (fun i h => []) (fun i h H locs ls hv => ?_) (fun N88 i h H locs ls ih88 hv => ?_) (41) 0 z_12.2 _ _ _ ⟨rfl, (by decide), (by decide), (by decide), lv_sub hl [0, 1, 2] rfl, hq⟩
          · skip
            obtain ⟨hrel88, i0, i1, hN, hl, hq⟩ := hv
            omega
          · skip
            obtain ⟨hrel88, i0, i1, hN, hl, hq⟩ := hv
            refine lv_iload_n hx hb dX7_digest_88 rfl (lv_at hl 0 rfl) ?_
            refine lv_bipush (v := 40) hx hb dX7_digest_89 (by decide) ?_
            refine lv_icmp_ge (tgt := 119) hx hb dX7_digest_91 (by decide) (fun c_13 => ?_) (fun c_13 => ?_)
            · skip
              have hx_14 : ((i, h) : Int32 × Int64) = lpX7_digest_88 U_count fUH (41) 0 z_12.2 := (hrel88.trans ((if_pos c_13))).symm
              obtain ⟨z_15, gz_15⟩ : ∃ z : Int32 × Int64, z = (i, h) := ⟨_, rfl⟩
              have ez_15 : z_15 = lpX7_digest_88 U_count fUH (41) 0 z_12.2 := gz_15.trans hx_14
              have hl : lv_has ls 4 [(3, .int z_15.1), (1, .long z_15.2), (0, .ref aY)] := by subst gz_15; exact hl
              have hq : kAt G A s [(aY, .inr (7, [.ref aS, .ref rY_images, .ref rY_kept, .ref rY_law, .ref rY_reader, .ref rY_trial, .ref rY_stages, .ref rY_row, .ref rY_bestRow, .int Y_bestPeak, .int Y_bads, .int Y_noes, .int Y_fulls])), (aS, .inr (4, [.ref aN, .ref aT, .ref aP, .ref aC, .ref aU])), (aN, .inl (cN, 8, .inl fN)), (aC, .inr (0, [.long C_place, .long C_speed, .int C_posture, .int C_since, .int C_height, .int C_ticks, .int C_way, .int C_strength, .int C_drops, .int C_greatestDrop, .long C_otherPlace, .long C_otherSpeed])), (aU, .inr (6, [.ref aUH, .int U_count])), (aUH, .inl (cUH, 40, .inl fUH)), (aT, .inr (5, [.ref aTS, .int T_length])), (aTS, .inl (cTS, 60, .inl fTS)), (aP, .inr (3, [.ref aPT, .ref aPF, .int P_count])), (aPT, .inl (cPT, 8, .inl fPT)), (aPF, .inl (cPF, 8, .inl fPF))] H locs := by subst gz_15; exact hq
              refine lv_lload_n hx hb dX7_digest_119 rfl (lv_at hl 1 rfl) ?_
              have hf : (z_15.2 : Int64) = fX7_digest fN T_length fTS P_count fPT fPF C_place C_speed C_posture C_since C_height C_ticks C_strength C_drops C_greatestDrop C_otherPlace C_otherSpeed U_count fUH := by
                exact ((congrArg (fun (z_3 : Int32 × Int64) => ((let r_5 : Int64 := fX5_digestOnto z_3.2 T_length fTS
  let r_8 : Int64 := fX3_digestOnto r_5 P_count fPT fPF
  let z_12 : Int32 × Int64 := lpX7_digest_61 C_place C_speed C_posture C_since C_height C_ticks C_strength C_drops C_greatestDrop C_otherPlace C_otherSpeed U_count (13) 0 r_8
  let z_15 : Int32 × Int64 := lpX7_digest_88 U_count fUH (41) 0 z_12.2
  z_15.2) : Int64)) ez_3.symm).trans ((congrArg (fun (r_5 : Int64) => ((let r_8 : Int64 := fX3_digestOnto r_5 P_count fPT fPF
  let z_12 : Int32 × Int64 := lpX7_digest_61 C_place C_speed C_posture C_since C_height C_ticks C_strength C_drops C_greatestDrop C_otherPlace C_otherSpeed U_count (13) 0 r_8
  let z_15 : Int32 × Int64 := lpX7_digest_88 U_count fUH (41) 0 z_12.2
  z_15.2) : Int64)) er_5.symm).trans ((congrArg (fun (r_8 : Int64) => ((let z_12 : Int32 × Int64 := lpX7_digest_61 C_place C_speed C_posture C_since C_height C_ticks C_strength C_drops C_greatestDrop C_otherPlace C_otherSpeed U_count (13) 0 r_8
  let z_15 : Int32 × Int64 := lpX7_digest_88 U_count fUH (41) 0 z_12.2
  z_15.2) : Int64)) er_8.symm).trans ((congrArg (fun (z_12 : Int32 × Int64) => ((let z_15 : Int32 × Int64 := lpX7_digest_88 U_count fUH (41) 0 z_12.2
  z_15.2) : Int64)) ez_12.symm).trans ((congrArg (fun (z_15 : Int32 × Int64) => ((z_15.2) : Int64)) ez_15.symm)))))).symm
              exact kk_el hx hb hr hlocks hK hq [0, 1, 2, 6, 7, 8, 9, 10, 3, 4, 5] () rfl (by decide) dX7_digest_120 hf
            · skip
              have hi := kk_nle (k := 40) rfl c_13
              refine lv_ldc2 hx hb hown lk1_ dX7_digest_94 ?_
              refine lv_lload_n hx hb dX7_digest_97 rfl (lv_at hl 1 rfl) ?_
              refine lv_lmul hx hb dX7_digest_98 ?_
              refine lv_aload_n hx hb dX7_digest_99 rfl (lv_at hl 2 rfl) ?_
              refine kk_get (ci := 7) (v := .ref aS) (C := RX7) (T := TX7) (N := 13) hx hb hts iX7 hown hK hq 0 rfl rfl 0 (by decide) lk2_ rfl dX7_digest_100 ?_
              refine kk_get (ci := 4) (v := .ref aU) (C := RX4) (T := TX4) (N := 5) hx hb hts iX4 hown hK hq 1 rfl rfl 4 (by decide) lk6_ rfl dX7_digest_103 ?_
              refine lv_iload_n hx hb dX7_digest_106 rfl (lv_at hl 0 rfl) ?_
              refine kk_Vi (As := [.int i]) (rest := [.long (31 * h)]) (wr := [(aY, .inr (7, [.ref aS, .ref rY_images, .ref rY_kept, .ref rY_law, .ref rY_reader, .ref rY_trial, .ref rY_stages, .ref rY_row, .ref rY_bestRow, .int Y_bestPeak, .int Y_bads, .int Y_noes, .int Y_fulls])), (aS, .inr (4, [.ref aN, .ref aT, .ref aP, .ref aC, .ref aU])), (aN, .inl (cN, 8, .inl fN)), (aC, .inr (0, [.long C_place, .long C_speed, .int C_posture, .int C_since, .int C_height, .int C_ticks, .int C_way, .int C_strength, .int C_drops, .int C_greatestDrop, .long C_otherPlace, .long C_otherSpeed])), (aT, .inr (5, [.ref aTS, .int T_length])), (aTS, .inl (cTS, 60, .inl fTS)), (aP, .inr (3, [.ref aPT, .ref aPF, .int P_count])), (aPT, .inl (cPT, 8, .inl fPT)), (aPF, .inl (cPF, 8, .inl fPF))]) ⟨hx, hb, hml, hown, hts⟩ (c_X6_beforeLast l G aU aUH cUH i U_count fUH (by assumption)) (kk_cwV 1 hts hsb wd_595 wd_596 wd_597 wd_62 wd_598 rfl rfl hd_X6_beforeLast ⟨Nat.le_of_ble_eq_true rfl, Nat.le_of_ble_eq_true rfl⟩) hA hK hq [4, 5] [0, 1, 2, 3, 6, 7, 8, 9, 10] [4] rfl rfl rfl (by decide) (by decide) (by decide) 0 6 rfl rfl rfl rfl hl.1 rfl (Nat.le_of_ble_eq_true rfl) dX7_digest_107 ⟨Nat.zero_le _, Nat.zero_le _⟩ (fun r_17 u_16 H locs h_18 hq => ?_)
              have er_17 := h_18
              have hq : kAt G A s [(aY, .inr (7, [.ref aS, .ref rY_images, .ref rY_kept, .ref rY_law, .ref rY_reader, .ref rY_trial, .ref rY_stages, .ref rY_row, .ref rY_bestRow, .int Y_bestPeak, .int Y_bads, .int Y_noes, .int Y_fulls])), (aS, .inr (4, [.ref aN, .ref aT, .ref aP, .ref aC, .ref aU])), (aN, .inl (cN, 8, .inl fN)), (aC, .inr (0, [.long C_place, .long C_speed, .int C_posture, .int C_since, .int C_height, .int C_ticks, .int C_way, .int C_strength, .int C_drops, .int C_greatestDrop, .long C_otherPlace, .long C_otherSpeed])), (aT, .inr (5, [.ref aTS, .int T_length])), (aTS, .inl (cTS, 60, .inl fTS)), (aP, .inr (3, [.ref aPT, .ref aPF, .int P_count])), (aPT, .inl (cPT, 8, .inl fPT)), (aPF, .inl (cPF, 8, .inl fPF)), (aU, .inr (6, [.ref aUH, .int U_count])), (aUH, .inl (cUH, 40, .inl fUH))] H locs := hq
              refine lv_i2l hx hb dX7_digest_110 rfl ?_
              refine lv_ladd hx hb dX7_digest_111 ?_
              refine lv_topl (fun x1_19 ex1_19 => ?_)
              refine lv_lstore_n (lv' := [(1, .long x1_19), (3, .int i), (0, .ref aY)]) hx hb dX7_digest_112 rfl hl (by decide) rfl (fun ls hl => ?_)
              refine lv_iinc (v := i + 1) (lv' := [(3, .int (i + 1)), (1, .long x1_19), (0, .ref aY)]) hx hb dX7_digest_113 hl (k := 1) rfl rfl (by decide) rfl (fun ls hl => ?_)
              refine lv_goto (tgt := 88) hx hb dX7_digest_116 (by decide) ?_
              exact ih88 (i + 1) x1_19 _ _ _ ⟨(hrel88.trans ((if_neg c_13).trans ((congrArg (fun (r_17 : Int32) => ((let x1_17 : Int64 := (31 * h) + r_17.toInt64
    lpX7_digest_88 U_count fUH N88 (i + 1) x1_17) : Int32 × Int64)) er_17.symm).trans ((congrArg (fun (x1_19 : Int64) => ((lpX7_digest_88 U_count fUH N88 (i + 1) x1_19) : Int32 × Int64)) ex1_19.symm))))), (by have := kk_inc (x := i) (by omega); omega), (by have := kk_inc (x := i) (by omega); omega), (by have := kk_inc (x := i) (by omega); omega), lv_sub hl [0, 1, 2] rfl, (kk_sub hq [0, 1, 2, 3, 9, 10, 4, 5, 6, 7, 8] rfl (by decide))⟩
        · skip
          have hi := kk_nle (k := 12) rfl c_10
          refine lv_ldc2 hx hb hown lk1_ dX7_digest_67 ?_
          refine lv_lload_n hx hb dX7_digest_70 rfl (lv_at hl 1 rfl) ?_
          refine lv_lmul hx hb dX7_digest_71 ?_
          refine lv_aload_n hx hb dX7_digest_72 rfl (lv_at hl 2 rfl) ?_
          refine lv_iload_n hx hb dX7_digest_73 rfl (lv_at hl 0 rfl) ?_
          refine kk_Vi (As := [.int i]) (rest := [.long (31 * h)]) (wr := [(aN, .inl (cN, 8, .inl fN)), (aUH, .inl (cUH, 40, .inl fUH)), (aT, .inr (5, [.ref aTS, .int T_length])), (aTS, .inl (cTS, 60, .inl fTS)), (aP, .inr (3, [.ref aPT, .ref aPF, .int P_count])), (aPT, .inl (cPT, 8, .inl fPT)), (aPF, .inl (cPF, 8, .inl fPF))]) ⟨hx, hb, hml, hown, hts⟩ (c_X7_valueTold l G aY aS aC aU rY_images rY_kept rY_law rY_reader rY_trial rY_stages rY_row rY_bestRow aN aT aP aUH i Y_bestPeak Y_bads Y_noes Y_fulls C_place C_speed C_posture C_since C_height C_ticks C_way C_strength C_drops C_greatestDrop C_otherPlace C_otherSpeed U_count) (kk_cwV 1 hts hsb wd_576 wd_577 wd_578 wd_2 wd_579 rfl rfl hd_X7_valueTold ⟨Nat.le_of_ble_eq_true rfl, Nat.le_of_ble_eq_true rfl⟩) hA hK hq [0, 1, 3, 4] [2, 5, 6, 7, 8, 9, 10] [] rfl rfl rfl (by decide) (by decide) (by decide) 0 7 rfl rfl rfl rfl hl.1 rfl (Nat.le_of_ble_eq_true rfl) dX7_digest_74 ⟨Nat.zero_le _, Nat.zero_le _⟩ (fun r_21 u_20 H locs h_22 hq => ?_)
          have er_21 := h_22
          have hq : kAt G A s [(aN, .inl (cN, 8, .inl fN)), (aUH, .inl (cUH, 40, .inl fUH)), (aT, .inr (5, [.ref aTS, .int T_length])), (aTS, .inl (cTS, 60, .inl fTS)), (aP, .inr (3, [.ref aPT, .ref aPF, .int P_count])), (aPT, .inl (cPT, 8, .inl fPT)), (aPF, .inl (cPF, 8, .inl fPF)), (aY, .inr (7, [.ref aS, .ref rY_images, .ref rY_kept, .ref rY_law, .ref rY_reader, .ref rY_trial, .ref rY_stages, .ref rY_row, .ref rY_bestRow, .int Y_bestPeak, .int Y_bads, .int Y_noes, .int Y_fulls])), (aS, .inr (4, [.ref aN, .ref aT, .ref aP, .ref aC, .ref aU])), (aC, .inr (0, [.long C_place, .long C_speed, .int C_posture, .int C_since, .int C_height, .int C_ticks, .int C_way, .int C_strength, .int C_drops, .int C_greatestDrop, .long C_otherPlace, .long C_otherSpeed])), (aU, .inr (6, [.ref aUH, .int U_count]))] H locs := hq
          refine lv_i2l hx hb dX7_digest_77 rfl ?_
          refine lv_ladd hx hb dX7_digest_78 ?_
          refine lv_topl (fun x1_23 ex1_23 => ?_)
          refine lv_lstore_n (lv' := [(1, .long x1_23), (3, .int i), (0, .ref aY)]) hx hb dX7_digest_79 rfl hl (by decide) rfl (fun ls hl => ?_)
          refine lv_iinc (v := i + 1) (lv' := [(3, .int (i + 1)), (1, .long x1_23), (0, .ref aY)]) hx hb dX7_digest_80 hl (k := 1) rfl rfl (by decide) rfl (fun ls hl => ?_)
          refine lv_goto (tgt := 61) hx hb dX7_digest_83 (by decide) ?_
          exact ih61 (i + 1) x1_23 _ _ _ ⟨(hrel61.trans ((if_neg c_10).trans ((congrArg (fun (r_21 : Int32) => ((let x1_14 : Int64 := (31 * h) + r_21.toInt64
    lpX7_digest_61 C_place C_speed C_posture C_since C_height C_ticks C_strength C_drops C_greatestDrop C_otherPlace C_otherSpeed U_count N61 (i + 1) x1_14) : Int32 × Int64)) er_21.symm).trans ((congrArg (fun (x1_23 : Int64) => ((lpX7_digest_61 C_place C_speed C_posture C_since C_height C_ticks C_strength C_drops C_greatestDrop C_otherPlace C_otherSpeed U_count N61 (i + 1) x1_23) : Int32 × Int64)) ex1_23.symm))))), (by have := kk_inc (x := i) (by omega); omega), (by have := kk_inc (x := i) (by omega); omega), (by have := kk_inc (x := i) (by omega); omega), lv_sub hl [0, 1, 2] rfl, (kk_sub hq [7, 8, 0, 9, 10, 1, 2, 3, 4, 5, 6] rfl (by decide))⟩
    · skip
      have hi := kk_nle (k := 8) rfl c_1
      refine lv_ldc2 hx hb hown lk1_ dX7_digest_12 ?_
      refine lv_lload_n hx hb dX7_digest_15 rfl (lv_at hl 1 rfl) ?_
      refine lv_lmul hx hb dX7_digest_16 ?_
      refine lv_aload_n hx hb dX7_digest_17 rfl (lv_at hl 2 rfl) ?_
      refine kk_get (ci := 7) (v := .ref aS) (C := RX7) (T := TX7) (N := 13) hx hb hts iX7 hown hK hq 0 rfl rfl 0 (by decide) lk2_ rfl dX7_digest_18 ?_
      refine kk_get (ci := 4) (v := .ref aN) (C := RX4) (T := TX4) (N := 5) hx hb hts iX4 hown hK hq 1 rfl rfl 0 (by decide) lk3_ rfl dX7_digest_21 ?_
      refine lv_iload_n hx hb dX7_digest_24 rfl (lv_at hl 0 rfl) ?_
      refine kk_iald hx hb hK hq 2 0 rfl rfl i.toNatClampNeg (kk_cl i0) (kk_clt i0 hi) (by decide) dX7_digest_25 ?_
      refine lv_i2l hx hb dX7_digest_26 rfl ?_
      refine lv_ladd hx hb dX7_digest_27 ?_
      refine lv_topl (fun x1_24 ex1_24 => ?_)
      refine lv_lstore_n (lv' := [(1, .long x1_24), (3, .int i), (0, .ref aY)]) hx hb dX7_digest_28 rfl hl (by decide) rfl (fun ls hl => ?_)
      refine lv_iinc (v := i + 1) (lv' := [(3, .int (i + 1)), (1, .long x1_24), (0, .ref aY)]) hx hb dX7_digest_29 hl (k := 1) rfl rfl (by decide) rfl (fun ls hl => ?_)
      refine lv_goto (tgt := 6) hx hb dX7_digest_32 (by decide) ?_
      exact ih6 (i + 1) x1_24 _ _ _ ⟨(hrel6.trans ((if_neg c_1).trans ((congrArg (fun (x1_24 : Int64) => ((lpX7_digest_6 fN N6 (i + 1) x1_24) : Int32 × Int64)) ex1_24.symm)))), (by have := kk_inc (x := i) (by omega); omega), (by have := kk_inc (x := i) (by omega); omega), (by have := kk_inc (x := i) (by omega); omega), lv_sub hl [0, 1, 2] rfl, hq⟩

def uX3_step_j64_g (g : Nat → Int32) (mm : Nat → Nat → Int32) : Nat → Int32 := if (mm 1 5) = 1 then (if ((mm 1 7) + (mm 1 9)) ≤ (0 : Int32) then (g) else ((upd g 4 ((g 4) + 1)))) else (g)
def uX3_step_j64_mm (mm : Nat → Nat → Int32) : Nat → Nat → Int32 := if (mm 1 5) = 1 then (if ((mm 1 7) + (mm 1 9)) ≤ (0 : Int32) then (mm) else ((va_up (va_up (va_up mm 0 (upd (mm 0) 0 (mm 1 2))) 1 (upd ((va_up mm 0 (upd (mm 0) 0 (mm 1 2))) 1) 2 1)) 1 (upd ((va_up (va_up mm 0 (upd (mm 0) 0 (mm 1 2))) 1 (upd ((va_up mm 0 (upd (mm 0) 0 (mm 1 2))) 1) 2 1)) 1) 5 0)))) else (mm)
def uX3_step_j90_mm (j64_mm : Nat → Nat → Int32) : Nat → Nat → Int32 := if (j64_mm 1 6) = 1 then ((va_up (va_up j64_mm 1 (upd (j64_mm 1) 6 0)) 1 (upd ((va_up j64_mm 1 (upd (j64_mm 1) 6 0)) 1) 5 1))) else (j64_mm)
def uX3_step_n158_g (j64_g : Nat → Int32) : Nat → Int32 := (upd j64_g 3 ((j64_g 3) + 1))
def uX3_step_n158_mm (j90_mm : Nat → Nat → Int32) : Nat → Nat → Int32 := (va_up (va_up (va_up j90_mm 1 (upd (j90_mm 1) 2 (rX3_after (j90_mm 1 2)))) 4 (shf ((va_up j90_mm 1 (upd (j90_mm 1) 2 (rX3_after (j90_mm 1 2)))) 4) 0)) 4 (upd ((va_up (va_up j90_mm 1 (upd (j90_mm 1) 2 (rX3_after (j90_mm 1 2)))) 4 (shf ((va_up j90_mm 1 (upd (j90_mm 1) 2 (rX3_after (j90_mm 1 2)))) 4) 0)) 4) 0 (j90_mm 1 2)))
def uX3_step_n158_l1 (j90_mm : Nat → Nat → Int32) : Int32 := (j90_mm 1 2)
def uX3_step_n158_l2 (j90_mm : Nat → Nat → Int32) : Int32 := (j90_mm 0 ((j90_mm 1 2).toNatClampNeg))
def uX3_step_j241_g (n158_g : Nat → Int32) (n158_mm : Nat → Nat → Int32) (n158_l1 : Int32) (n158_l2 : Int32) : Nat → Int32 := if (6 : Int32) ≤ (n158_l2 / 512) then (if (n158_l2 / 512) = 6 then ((gX3_device n158_g n158_mm n158_l2)) else (if (rX3_has n158_l2 256) = 0 then (n158_g) else (if (rX3_has n158_l2 1) = 0 then ((gX3_second n158_g n158_mm n158_l2)) else (n158_g)))) else ((gX3_reference n158_g (mX3_place n158_g n158_mm n158_l2 n158_l1) (n158_l2 / 512) (rX3_place n158_g n158_mm n158_l2 n158_l1)))
def uX3_step_j241_mm (n158_g : Nat → Int32) (n158_mm : Nat → Nat → Int32) (n158_l1 : Int32) (n158_l2 : Int32) : Nat → Nat → Int32 := if (6 : Int32) ≤ (n158_l2 / 512) then (if (n158_l2 / 512) = 6 then ((mX3_device n158_g n158_mm n158_l2)) else (if (rX3_has n158_l2 256) = 0 then ((mX3_first n158_g n158_mm n158_l2)) else (if (rX3_has n158_l2 1) = 0 then ((mX3_second n158_g n158_mm n158_l2)) else ((mX3_third n158_g n158_mm n158_l2))))) else ((mX3_reference n158_g (mX3_place n158_g n158_mm n158_l2 n158_l1) (n158_l2 / 512) (rX3_place n158_g n158_mm n158_l2 n158_l1)))
def gX3_step (g : Nat → Int32) (mm : Nat → Nat → Int32)  : Nat → Int32 := let j64_g : Nat → Int32 := uX3_step_j64_g g mm; let j64_mm : Nat → Nat → Int32 := uX3_step_j64_mm mm; let j90_mm : Nat → Nat → Int32 := uX3_step_j90_mm j64_mm; let n158_g : Nat → Int32 := uX3_step_n158_g j64_g; let n158_mm : Nat → Nat → Int32 := uX3_step_n158_mm j90_mm; let n158_l1 : Int32 := uX3_step_n158_l1 j90_mm; let n158_l2 : Int32 := uX3_step_n158_l2 j90_mm; let j241_g : Nat → Int32 := uX3_step_j241_g n158_g n158_mm n158_l1 n158_l2; j241_g
def mX3_step (g : Nat → Int32) (mm : Nat → Nat → Int32)  : Nat → Nat → Int32 := let j64_g : Nat → Int32 := uX3_step_j64_g g mm; let j64_mm : Nat → Nat → Int32 := uX3_step_j64_mm mm; let j90_mm : Nat → Nat → Int32 := uX3_step_j90_mm j64_mm; let n158_g : Nat → Int32 := uX3_step_n158_g j64_g; let n158_mm : Nat → Nat → Int32 := uX3_step_n158_mm j90_mm; let n158_l1 : Int32 := uX3_step_n158_l1 j90_mm; let n158_l2 : Int32 := uX3_step_n158_l2 j90_mm; let j241_mm : Nat → Nat → Int32 := uX3_step_j241_mm n158_g n158_mm n158_l1 n158_l2; j241_mm
def sJ (mm : Nat → Nat → Int32) : Nat → Nat → Int32 := uX3_step_j90_mm (uX3_step_j64_mm mm)
def sH (mm : Nat → Nat → Int32) : Int32 := uX3_step_n158_l1 (sJ mm)
def sW (mm : Nat → Nat → Int32) : Int32 := uX3_step_n158_l2 (sJ mm)
def sG (g : Nat → Int32) (mm : Nat → Nat → Int32) : Nat → Int32 := uX3_step_n158_g (uX3_step_j64_g g mm)
def sM (mm : Nat → Nat → Int32) : Nat → Nat → Int32 := uX3_step_n158_mm (sJ mm)
set_option maxRecDepth 20000 in
set_option maxHeartbeats 4000000 in
theorem c_X3_step (l : Launch) (D : va_G) (cI : ClassId) (q : Nat → Nat) (g : Nat → Int32) (mm : Nat → Nat → Int32)  (h1 : vp_in (sH mm) 4096) (h2 : vp_in (uX3_place_j26_l3 (sW mm) (sH mm)) 4096) (h3 : vp_in (rX3_place (sG g mm) (sM mm) (sW mm) (sH mm)) 4096) (h4 : Ma (sG g mm)) : MI l D cI yX3_step (.code yX3_step cX3_step 5 none) ({ frames := 3, cells := 0, slots := 0, locals := 63 } : Room) [.ref (q 0)] (mw q cI g mm) (mw q cI (gX3_step g mm) (mX3_step g mm)) none := by
  refine MI.ofV (own := RX3) (by decide) rfl (Nat.le_of_ble_eq_true rfl) ?_
  intro p e s m args below meth c A ls Q X Z hl hret
  have hT : ∀ w ∈ TB, w ∈ (Cond.code yX3_step cX3_step 5 none :: TB) := fun _ h => List.mem_cons_of_mem _ h
  have hl : lv_has ls 5 [(0, .ref (q 0))] := hl
  refine lv_aload_n X.1 X.2.1 dX3_step_0 rfl (lv_at hl 0 rfl) ?_
  refine G_X3_r X hT Z dX3_step_1 ?_
  refine lv_iconst (v := 5) X.1 X.2.1 dX3_step_4 (by decide) ?_
  refine L_X3_r (j := 5) X Z (vin_c (by decide)) (by decide) dX3_step_5 ?_
  refine lv_iconst (v := 1) X.1 X.2.1 dX3_step_6 (by decide) ?_
  suffices K_64 : ∀ (j64_g : Nat → Int32) (j64_mm : Nat → Nat → Int32) (ls : Array Slot) (H : Heap) (locs : List Loc), j64_g = uX3_step_j64_g g mm → j64_mm = uX3_step_j64_mm mm → lv_has ls 5 [(0, .ref (q 0))] → ZZ D cI (mw q cI j64_g j64_mm) A s H locs → W p l e ({ frames := 3, cells := 0, slots := 0, locals := 63 } : Room) s m args below meth c H locs 0 0 Q (F0 m 64 ls []) by
    refine lv_icmp_ne (tgt := 64) X.1 X.2.1 dX3_step_7 (by decide) (fun c_7 => ?_) (fun c_7 => ?_)
    · exact K_64 g mm _ _ _ (if_neg c_7).symm (if_neg c_7).symm (lv_sub hl [0] rfl) Z
    · refine lv_aload_n X.1 X.2.1 dX3_step_10 rfl (lv_at hl 0 rfl) ?_
      refine G_X3_r X hT Z dX3_step_11 ?_
      refine lv_bipush (v := 7) X.1 X.2.1 dX3_step_14 (by decide) ?_
      refine L_X3_r (j := 7) X Z (vin_c (by decide)) (by decide) dX3_step_16 ?_
      refine lv_aload_n X.1 X.2.1 dX3_step_17 rfl (lv_at hl 0 rfl) ?_
      refine G_X3_r X hT Z dX3_step_18 ?_
      refine lv_bipush (v := 9) X.1 X.2.1 dX3_step_21 (by decide) ?_
      refine L_X3_r (j := 9) X Z (vin_c (by decide)) (by decide) dX3_step_23 ?_
      refine lv_iadd X.1 X.2.1 dX3_step_24 ?_
      refine lv_if_le (tgt := 64) X.1 X.2.1 dX3_step_25 (by decide) (fun c_25 => ?_) (fun c_25 => ?_)
      · exact K_64 g mm _ _ _ ((if_pos c_7).trans (if_pos c_25)).symm ((if_pos c_7).trans (if_pos c_25)).symm (lv_sub hl [0] rfl) Z
      · refine lv_aload_n X.1 X.2.1 dX3_step_28 rfl (lv_at hl 0 rfl) ?_
        refine G_X3_core X hT Z dX3_step_29 ?_
        refine lv_iconst (v := 0) X.1 X.2.1 dX3_step_32 (by decide) ?_
        refine lv_aload_n X.1 X.2.1 dX3_step_33 rfl (lv_at hl 0 rfl) ?_
        refine G_X3_r X hT Z dX3_step_34 ?_
        refine lv_iconst (v := 2) X.1 X.2.1 dX3_step_37 (by decide) ?_
        refine L_X3_r (j := 2) X Z (vin_c (by decide)) (by decide) dX3_step_38 ?_
        refine S_X3_core (j := 0) X Z (vin_c (by decide)) (by decide) dX3_step_39 (fun H locs Z => ?_)
        refine lv_aload_n X.1 X.2.1 dX3_step_40 rfl (lv_at hl 0 rfl) ?_
        refine G_X3_r X hT Z dX3_step_41 ?_
        refine lv_iconst (v := 2) X.1 X.2.1 dX3_step_44 (by decide) ?_
        refine lv_iconst (v := 1) X.1 X.2.1 dX3_step_45 (by decide) ?_
        refine S_X3_r (j := 2) X Z (vin_c (by decide)) (by decide) dX3_step_46 (fun H locs Z => ?_)
        refine lv_aload_n X.1 X.2.1 dX3_step_47 rfl (lv_at hl 0 rfl) ?_
        refine G_X3_r X hT Z dX3_step_48 ?_
        refine lv_iconst (v := 5) X.1 X.2.1 dX3_step_51 (by decide) ?_
        refine lv_iconst (v := 0) X.1 X.2.1 dX3_step_52 (by decide) ?_
        refine S_X3_r (j := 5) X Z (vin_c (by decide)) (by decide) dX3_step_53 (fun H locs Z => ?_)
        refine lv_aload_n X.1 X.2.1 dX3_step_54 rfl (lv_at hl 0 rfl) ?_
        refine lv_dup X.1 X.2.1 dX3_step_55 rfl ?_
        refine G_X3_interrupts X hT Z dX3_step_56 ?_
        refine lv_iconst (v := 1) X.1 X.2.1 dX3_step_59 (by decide) ?_
        refine lv_iadd X.1 X.2.1 dX3_step_60 ?_
        refine P_X3_interrupts X hT Z dX3_step_61 (fun H locs Z => ?_)
        exact K_64 (upd g 4 ((g 4) + 1)) (va_up (va_up (va_up mm 0 (upd (mm 0) 0 (mm 1 2))) 1 (upd ((va_up mm 0 (upd (mm 0) 0 (mm 1 2))) 1) 2 1)) 1 (upd ((va_up (va_up mm 0 (upd (mm 0) 0 (mm 1 2))) 1 (upd ((va_up mm 0 (upd (mm 0) 0 (mm 1 2))) 1) 2 1)) 1) 5 0)) _ _ _ ((if_pos c_7).trans (if_neg c_25)).symm ((if_pos c_7).trans (if_neg c_25)).symm (lv_sub hl [0] rfl) Z
  intro j64_g j64_mm ls H locs e_j64_g e_j64_mm hl Z
  refine lv_aload_n X.1 X.2.1 dX3_step_64 rfl (lv_at hl 0 rfl) ?_
  refine G_X3_r X hT Z dX3_step_65 ?_
  refine lv_bipush (v := 6) X.1 X.2.1 dX3_step_68 (by decide) ?_
  refine L_X3_r (j := 6) X Z (vin_c (by decide)) (by decide) dX3_step_70 ?_
  refine lv_iconst (v := 1) X.1 X.2.1 dX3_step_71 (by decide) ?_
  suffices K_90 : ∀ (j90_mm : Nat → Nat → Int32) (ls : Array Slot) (H : Heap) (locs : List Loc), j90_mm = uX3_step_j90_mm j64_mm → lv_has ls 5 [(0, .ref (q 0))] → ZZ D cI (mw q cI j64_g j90_mm) A s H locs → W p l e ({ frames := 3, cells := 0, slots := 0, locals := 63 } : Room) s m args below meth c H locs 0 0 Q (F0 m 90 ls []) by
    refine lv_icmp_ne (tgt := 90) X.1 X.2.1 dX3_step_72 (by decide) (fun c_72 => ?_) (fun c_72 => ?_)
    · exact K_90 j64_mm _ _ _ (if_neg c_72).symm (lv_sub hl [0] rfl) Z
    · refine lv_aload_n X.1 X.2.1 dX3_step_75 rfl (lv_at hl 0 rfl) ?_
      refine G_X3_r X hT Z dX3_step_76 ?_
      refine lv_bipush (v := 6) X.1 X.2.1 dX3_step_79 (by decide) ?_
      refine lv_iconst (v := 0) X.1 X.2.1 dX3_step_81 (by decide) ?_
      refine S_X3_r (j := 6) X Z (vin_c (by decide)) (by decide) dX3_step_82 (fun H locs Z => ?_)
      refine lv_aload_n X.1 X.2.1 dX3_step_83 rfl (lv_at hl 0 rfl) ?_
      refine G_X3_r X hT Z dX3_step_84 ?_
      refine lv_iconst (v := 5) X.1 X.2.1 dX3_step_87 (by decide) ?_
      refine lv_iconst (v := 1) X.1 X.2.1 dX3_step_88 (by decide) ?_
      refine S_X3_r (j := 5) X Z (vin_c (by decide)) (by decide) dX3_step_89 (fun H locs Z => ?_)
      exact K_90 (va_up (va_up j64_mm 1 (upd (j64_mm 1) 6 0)) 1 (upd ((va_up j64_mm 1 (upd (j64_mm 1) 6 0)) 1) 5 1)) _ _ _ (if_pos c_72).symm (lv_sub hl [0] rfl) Z
  intro j90_mm ls H locs e_j90_mm hl Z
  refine lv_aload_n X.1 X.2.1 dX3_step_90 rfl (lv_at hl 0 rfl) ?_
  refine G_X3_r X hT Z dX3_step_91 ?_
  refine lv_iconst (v := 2) X.1 X.2.1 dX3_step_94 (by decide) ?_
  refine L_X3_r (j := 2) X Z (vin_c (by decide)) (by decide) dX3_step_95 ?_
  refine lv_istore_n (lv' := [(1, .int (j90_mm 1 2)), (0, .ref (q 0))]) X.1 X.2.1 dX3_step_96 rfl hl (by decide) rfl (fun ls hl => ?_)
  refine lv_aload_n X.1 X.2.1 dX3_step_97 rfl (lv_at hl 1 rfl) ?_
  refine G_X3_core X hT Z dX3_step_98 ?_
  refine lv_iload_n X.1 X.2.1 dX3_step_101 rfl (lv_at hl 0 rfl) ?_
  refine L_X3_core (j := (j90_mm 1 2).toNatClampNeg) X Z (by subst e_j90_mm e_j64_mm; exact h1) rfl dX3_step_102 ?_
  refine lv_istore_n (lv' := [(2, .int (j90_mm 0 ((j90_mm 1 2).toNatClampNeg))), (1, .int (j90_mm 1 2)), (0, .ref (q 0))]) X.1 X.2.1 dX3_step_103 rfl hl (by decide) rfl (fun ls hl => ?_)
  refine lv_aload_n X.1 X.2.1 dX3_step_104 rfl (lv_at hl 2 rfl) ?_
  refine G_X3_r X hT Z dX3_step_105 ?_
  refine lv_iconst (v := 2) X.1 X.2.1 dX3_step_108 (by decide) ?_
  refine lv_iload_n X.1 X.2.1 dX3_step_109 rfl (lv_at hl 1 rfl) ?_
  refine call_Si X hT Z k_X3_32 (c_X3_after l D cI (mw q cI j64_g j90_mm) (j90_mm 1 2) ) hd_X3_after ⟨by decide, by decide⟩ ⟨rfl, rfl⟩ hl.1 (rest := [.int 2, .ref (q 2)]) rfl (Nat.le_of_ble_eq_true rfl) ⟨by decide, by decide⟩ dX3_step_110 (fun H locs Z => ?_)
  refine S_X3_r (j := 2) X Z (vin_c (by decide)) (by decide) dX3_step_113 (fun H locs Z => ?_)
  refine lv_bipush (v := 63) X.1 X.2.1 dX3_step_114 (by decide) ?_
  refine lv_istore_n (lv' := [(3, .int 63), (2, .int (j90_mm 0 ((j90_mm 1 2).toNatClampNeg))), (1, .int (j90_mm 1 2)), (0, .ref (q 0))]) X.1 X.2.1 dX3_step_116 rfl hl (by decide) rfl (fun ls hl => ?_)
  refine lp_X3_step X hT D cI q j64_g (va_up j90_mm 1 (upd (j90_mm 1) 2 (rX3_after (j90_mm 1 2)))) (j90_mm 1 2) (j90_mm 0 ((j90_mm 1 2).toNatClampNeg)) (fun ls H locs hl Z => ?_) 63 (by decide) _ _ _ (lv_sub hl [0, 1, 2, 3] rfl) (by rw [shf_63]; exact Z)
  refine lv_aload_n X.1 X.2.1 dX3_step_141 rfl (lv_at hl 3 rfl) ?_
  refine G_X3_places X hT Z dX3_step_142 ?_
  refine lv_iconst (v := 0) X.1 X.2.1 dX3_step_145 (by decide) ?_
  refine lv_iload_n X.1 X.2.1 dX3_step_146 rfl (lv_at hl 2 rfl) ?_
  refine S_X3_places (j := 0) X Z (vin_c (by decide)) (by decide) dX3_step_147 (fun H locs Z => ?_)
  refine lv_aload_n X.1 X.2.1 dX3_step_148 rfl (lv_at hl 3 rfl) ?_
  refine lv_dup X.1 X.2.1 dX3_step_149 rfl ?_
  refine G_X3_steps X hT Z dX3_step_150 ?_
  refine lv_iconst (v := 1) X.1 X.2.1 dX3_step_153 (by decide) ?_
  refine lv_iadd X.1 X.2.1 dX3_step_154 ?_
  refine P_X3_steps X hT Z dX3_step_155 (fun H locs Z => ?_)
  suffices KN_158 : ∀ (n158_g : Nat → Int32) (n158_mm : Nat → Nat → Int32) (n158_l1 : Int32) (n158_l2 : Int32) (ls : Array Slot) (H : Heap) (locs : List Loc), n158_g = uX3_step_n158_g j64_g → n158_mm = uX3_step_n158_mm j90_mm → n158_l1 = uX3_step_n158_l1 j90_mm → n158_l2 = uX3_step_n158_l2 j90_mm → lv_has ls 5 [(3, .int (nI 0)), (2, .int n158_l2), (1, .int n158_l1), (0, .ref (q 0))] → ZZ D cI (mw q cI n158_g n158_mm) A s H locs → W p l e ({ frames := 3, cells := 0, slots := 0, locals := 63 } : Room) s m args below meth c H locs 0 0 Q (F0 m 158 ls []) by
    exact KN_158 (upd j64_g 3 ((j64_g 3) + 1)) (va_up (va_up (va_up j90_mm 1 (upd (j90_mm 1) 2 (rX3_after (j90_mm 1 2)))) 4 (shf ((va_up j90_mm 1 (upd (j90_mm 1) 2 (rX3_after (j90_mm 1 2)))) 4) 0)) 4 (upd ((va_up (va_up j90_mm 1 (upd (j90_mm 1) 2 (rX3_after (j90_mm 1 2)))) 4 (shf ((va_up j90_mm 1 (upd (j90_mm 1) 2 (rX3_after (j90_mm 1 2)))) 4) 0)) 4) 0 (j90_mm 1 2))) (j90_mm 1 2) (j90_mm 0 ((j90_mm 1 2).toNatClampNeg)) _ _ _ rfl rfl rfl rfl (lv_sub hl [0, 1, 2, 3] rfl) Z
  intro n158_g n158_mm n158_l1 n158_l2 ls H locs e_n158_g e_n158_mm e_n158_l1 e_n158_l2 hl Z
  refine lv_iload_n X.1 X.2.1 dX3_step_158 rfl (lv_at hl 1 rfl) ?_
  refine lv_sipush (v := 512) X.1 X.2.1 dX3_step_159 (by decide) ?_
  refine lv_idiv X.1 X.2.1 dX3_step_162 (by decide) ?_
  refine lv_istore_n (lv' := [(3, .int (n158_l2 / 512)), (2, .int n158_l2), (1, .int n158_l1), (0, .ref (q 0))]) X.1 X.2.1 dX3_step_163 rfl hl (by decide) rfl (fun ls hl => ?_)
  refine lv_iload_n X.1 X.2.1 dX3_step_164 rfl (lv_at hl 0 rfl) ?_
  refine lv_bipush (v := 6) X.1 X.2.1 dX3_step_165 (by decide) ?_
  suffices K_241 : ∀ (j241_g : Nat → Int32) (j241_mm : Nat → Nat → Int32) (ls : Array Slot) (H : Heap) (locs : List Loc), j241_g = uX3_step_j241_g n158_g n158_mm n158_l1 n158_l2 → j241_mm = uX3_step_j241_mm n158_g n158_mm n158_l1 n158_l2 → lv_has ls 5 [(3, .int (n158_l2 / 512)), (2, .int n158_l2), (1, .int n158_l1), (0, .ref (q 0))] → ZZ D cI (mw q cI j241_g j241_mm) A s H locs → W p l e ({ frames := 3, cells := 0, slots := 0, locals := 63 } : Room) s m args below meth c H locs 0 0 Q (F0 m 241 ls []) by
    refine lv_icmp_ge (tgt := 188) X.1 X.2.1 dX3_step_167 (by decide) (fun c_167 => ?_) (fun c_167 => ?_)
    · refine lv_iload_n X.1 X.2.1 dX3_step_188 rfl (lv_at hl 0 rfl) ?_
      refine lv_bipush (v := 6) X.1 X.2.1 dX3_step_189 (by decide) ?_
      refine lv_icmp_ne (tgt := 202) X.1 X.2.1 dX3_step_191 (by decide) (fun c_191 => ?_) (fun c_191 => ?_)
      · refine lv_iload_n X.1 X.2.1 dX3_step_202 rfl (lv_at hl 1 rfl) ?_
        refine lv_sipush (v := 256) X.1 X.2.1 dX3_step_203 (by decide) ?_
        refine call_Si X hT Z k_X3_57 (c_X3_has l D cI (mw q cI n158_g n158_mm) n158_l2 256 (by decide)) hd_X3_has ⟨by decide, by decide⟩ ⟨rfl, rfl⟩ hl.1 (rest := []) rfl (Nat.le_of_ble_eq_true rfl) ⟨by decide, by decide⟩ dX3_step_206 (fun H locs Z => ?_)
        refine lv_if_ne (tgt := 220) X.1 X.2.1 dX3_step_209 (by decide) (fun c_209 => ?_) (fun c_209 => ?_)
        · refine lv_iload_n X.1 X.2.1 dX3_step_220 rfl (lv_at hl 1 rfl) ?_
          refine lv_iconst (v := 1) X.1 X.2.1 dX3_step_221 (by decide) ?_
          refine call_Si X hT Z k_X3_57 (c_X3_has l D cI (mw q cI n158_g n158_mm) n158_l2 1 (by decide)) hd_X3_has ⟨by decide, by decide⟩ ⟨rfl, rfl⟩ hl.1 (rest := []) rfl (Nat.le_of_ble_eq_true rfl) ⟨by decide, by decide⟩ dX3_step_222 (fun H locs Z => ?_)
          refine lv_if_ne (tgt := 236) X.1 X.2.1 dX3_step_225 (by decide) (fun c_225 => ?_) (fun c_225 => ?_)
          · refine lv_aload_n X.1 X.2.1 dX3_step_236 rfl (lv_at hl 3 rfl) ?_
            refine lv_iload_n X.1 X.2.1 dX3_step_237 rfl (lv_at hl 1 rfl) ?_
            refine call_Vv X hT Z (qq := (RX3, TX3, 11)) k_X3_67 (c_X3_third l D cI q n158_g n158_mm n158_l2 ) rfl rfl hd_X3_third ⟨by decide, by decide⟩ ⟨rfl, rfl⟩ hl.1 (rest := []) rfl (Nat.le_of_ble_eq_true rfl) ⟨by decide, by decide⟩ dX3_step_238 (fun H locs Z => ?_)
            exact K_241 n158_g (mX3_third n158_g n158_mm n158_l2) _ _ _ ((if_pos c_167).trans ((if_neg c_191).trans ((if_neg c_209).trans (if_neg c_225)))).symm ((if_pos c_167).trans ((if_neg c_191).trans ((if_neg c_209).trans (if_neg c_225)))).symm (lv_sub hl [0, 1, 2, 3] rfl) Z
          · refine lv_aload_n X.1 X.2.1 dX3_step_228 rfl (lv_at hl 3 rfl) ?_
            refine lv_iload_n X.1 X.2.1 dX3_step_229 rfl (lv_at hl 1 rfl) ?_
            refine call_Vv X hT Z (qq := (RX3, TX3, 11)) k_X3_64 (c_X3_second l D cI q n158_g n158_mm n158_l2 ) rfl rfl hd_X3_second ⟨by decide, by decide⟩ ⟨rfl, rfl⟩ hl.1 (rest := []) rfl (Nat.le_of_ble_eq_true rfl) ⟨by decide, by decide⟩ dX3_step_230 (fun H locs Z => ?_)
            refine lv_goto (tgt := 241) X.1 X.2.1 dX3_step_233 (by decide) ?_
            exact K_241 (gX3_second n158_g n158_mm n158_l2) (mX3_second n158_g n158_mm n158_l2) _ _ _ ((if_pos c_167).trans ((if_neg c_191).trans ((if_neg c_209).trans (if_pos c_225)))).symm ((if_pos c_167).trans ((if_neg c_191).trans ((if_neg c_209).trans (if_pos c_225)))).symm (lv_sub hl [0, 1, 2, 3] rfl) Z
        · refine lv_aload_n X.1 X.2.1 dX3_step_212 rfl (lv_at hl 3 rfl) ?_
          refine lv_iload_n X.1 X.2.1 dX3_step_213 rfl (lv_at hl 1 rfl) ?_
          refine call_Vv X hT Z (qq := (RX3, TX3, 11)) k_X3_61 (c_X3_first l D cI q n158_g n158_mm n158_l2 ) rfl rfl hd_X3_first ⟨by decide, by decide⟩ ⟨rfl, rfl⟩ hl.1 (rest := []) rfl (Nat.le_of_ble_eq_true rfl) ⟨by decide, by decide⟩ dX3_step_214 (fun H locs Z => ?_)
          refine lv_goto (tgt := 241) X.1 X.2.1 dX3_step_217 (by decide) ?_
          exact K_241 n158_g (mX3_first n158_g n158_mm n158_l2) _ _ _ ((if_pos c_167).trans ((if_neg c_191).trans (if_pos c_209))).symm ((if_pos c_167).trans ((if_neg c_191).trans (if_pos c_209))).symm (lv_sub hl [0, 1, 2, 3] rfl) Z
      · refine lv_aload_n X.1 X.2.1 dX3_step_194 rfl (lv_at hl 3 rfl) ?_
        refine lv_iload_n X.1 X.2.1 dX3_step_195 rfl (lv_at hl 1 rfl) ?_
        refine call_Vv X hT Z (qq := (RX3, TX3, 11)) k_X3_53 (c_X3_device l D cI q n158_g n158_mm n158_l2 (by subst e_n158_g e_n158_mm e_n158_l1 e_n158_l2 e_j90_mm e_j64_mm e_j64_g; exact h4)) rfl rfl hd_X3_device ⟨by decide, by decide⟩ ⟨rfl, rfl⟩ hl.1 (rest := []) rfl (Nat.le_of_ble_eq_true rfl) ⟨by decide, by decide⟩ dX3_step_196 (fun H locs Z => ?_)
        refine lv_goto (tgt := 241) X.1 X.2.1 dX3_step_199 (by decide) ?_
        exact K_241 (gX3_device n158_g n158_mm n158_l2) (mX3_device n158_g n158_mm n158_l2) _ _ _ ((if_pos c_167).trans (if_pos c_191)).symm ((if_pos c_167).trans (if_pos c_191)).symm (lv_sub hl [0, 1, 2, 3] rfl) Z
    · refine lv_aload_n X.1 X.2.1 dX3_step_170 rfl (lv_at hl 3 rfl) ?_
      refine lv_iload_n X.1 X.2.1 dX3_step_171 rfl (lv_at hl 1 rfl) ?_
      refine lv_iload_n X.1 X.2.1 dX3_step_172 rfl (lv_at hl 2 rfl) ?_
      refine call_Vi X hT Z (qq := (RX3, TX3, 11)) k_X3_45 (c_X3_place l D cI q n158_g n158_mm n158_l2 n158_l1 (by subst e_n158_g e_n158_mm e_n158_l1 e_n158_l2 e_j90_mm e_j64_mm e_j64_g; exact h2)) rfl rfl hd_X3_place ⟨by decide, by decide⟩ ⟨rfl, rfl⟩ hl.1 (rest := []) rfl (Nat.le_of_ble_eq_true rfl) ⟨by decide, by decide⟩ dX3_step_173 (fun H locs Z => ?_)
      refine lv_istore (lv' := [(4, .int (rX3_place n158_g n158_mm n158_l2 n158_l1)), (3, .int (n158_l2 / 512)), (2, .int n158_l2), (1, .int n158_l1), (0, .ref (q 0))]) X.1 X.2.1 dX3_step_176 hl (by decide) rfl (fun ls hl => ?_)
      refine lv_aload_n X.1 X.2.1 dX3_step_178 rfl (lv_at hl 4 rfl) ?_
      refine lv_iload_n X.1 X.2.1 dX3_step_179 rfl (lv_at hl 1 rfl) ?_
      refine lv_iload X.1 X.2.1 dX3_step_180 (lv_at hl 0 rfl) ?_
      refine call_Vv X hT Z (qq := (RX3, TX3, 11)) k_X3_49 (c_X3_reference l D cI q n158_g (mX3_place n158_g n158_mm n158_l2 n158_l1) (n158_l2 / 512) (rX3_place n158_g n158_mm n158_l2 n158_l1) (by subst e_n158_g e_n158_mm e_n158_l1 e_n158_l2 e_j90_mm e_j64_mm e_j64_g; exact h3)) rfl rfl hd_X3_reference ⟨by decide, by decide⟩ ⟨rfl, rfl⟩ hl.1 (rest := []) rfl (Nat.le_of_ble_eq_true rfl) ⟨by decide, by decide⟩ dX3_step_182 (fun H locs Z => ?_)
      refine lv_goto (tgt := 241) X.1 X.2.1 dX3_step_185 (by decide) ?_
      exact K_241 (gX3_reference n158_g (mX3_place n158_g n158_mm n158_l2 n158_l1) (n158_l2 / 512) (rX3_place n158_g n158_mm n158_l2 n158_l1)) (mX3_reference n158_g (mX3_place n158_g n158_mm n158_l2 n158_l1) (n158_l2 / 512) (rX3_place n158_g n158_mm n158_l2 n158_l1)) _ _ _ (if_neg c_167).symm (if_neg c_167).symm (lv_sub hl [1, 2, 3, 4] rfl) Z
  intro j241_g j241_mm ls H locs e_j241_g e_j241_mm hl Z
  exact hret _ _ _ _ _ Z (mw_eq (by subst e_j64_g e_j64_mm e_j90_mm e_n158_g e_n158_mm e_n158_l1 e_n158_l2 e_j241_g e_j241_mm; exact rfl) (by subst e_j64_g e_j64_mm e_j90_mm e_n158_g e_n158_mm e_n158_l1 e_n158_l2 e_j241_g e_j241_mm; exact rfl)) dX3_step_241

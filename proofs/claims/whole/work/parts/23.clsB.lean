def uX2_performDevice_j311_g (g : Nat → Int32) (mm : Nat → Nat → Int32) (a1 : Int32) : Nat → Int32 := if a1 = 3073 then ((upd g 7 1)) else (if a1 = 3074 then ((upd (upd g 6 0) 7 0)) else (if a1 = 3096 then ((upd g 14 0)) else (if a1 = 3097 then ((gX2_skipIf g mm (g 14))) else (if a1 = 3098 then ((upd (upd (upd (upd g 0 0) 12 (tkX0_restart ((upd g 0 0) 11) ((upd g 0 0) 12) ((upd g 0 0) 13) ((upd g 0 0) 14) (mm 1))) 13 (bfX0_restart ((upd g 0 0) 11) ((upd g 0 0) 12) ((upd g 0 0) 13) ((upd g 0 0) 14) (mm 1))) 14 (flX0_restart ((upd g 0 0) 11) ((upd g 0 0) 12) ((upd g 0 0) 13) ((upd g 0 0) 14) (mm 1)))) else (if a1 = 3100 then ((upd g 0 ((g 0) ||| (g 13)))) else (if a1 = 3102 then ((upd (upd (upd (upd g 0 (g 13)) 12 (tkX0_restart ((upd g 0 (g 13)) 11) ((upd g 0 (g 13)) 12) ((upd g 0 (g 13)) 13) ((upd g 0 (g 13)) 14) (mm 1))) 13 (bfX0_restart ((upd g 0 (g 13)) 11) ((upd g 0 (g 13)) 12) ((upd g 0 (g 13)) 13) ((upd g 0 (g 13)) 14) (mm 1))) 14 (flX0_restart ((upd g 0 (g 13)) 11) ((upd g 0 (g 13)) 12) ((upd g 0 (g 13)) 13) ((upd g 0 (g 13)) 14) (mm 1)))) else (if a1 = 3105 then ((gX2_skipIf g mm (g 8))) else (if a1 = 3106 then ((upd g 8 0)) else (if a1 = 3108 then ((upd (upd g 15 (ctX1_add (g 15) (mm 2) ((g 0) &&& 255))) 8 1)) else (if a1 = 3110 then ((upd (upd g 15 (ctX1_add (g 15) (mm 2) ((g 0) &&& 255))) 8 1)) else (g)))))))))))
def uX2_performDevice_j311_mm (g : Nat → Int32) (mm : Nat → Nat → Int32) (a1 : Int32) : Nat → Nat → Int32 := if a1 = 3073 then (mm) else (if a1 = 3074 then (mm) else (if a1 = 3096 then (mm) else (if a1 = 3097 then (mm) else (if a1 = 3098 then (mm) else (if a1 = 3100 then (mm) else (if a1 = 3102 then (mm) else (if a1 = 3105 then (mm) else (if a1 = 3106 then (mm) else (if a1 = 3108 then ((va_up mm 2 (rwX1_add (g 15) (mm 2) ((g 0) &&& 255)))) else (if a1 = 3110 then ((va_up mm 2 (rwX1_add (g 15) (mm 2) ((g 0) &&& 255)))) else (mm)))))))))))
def gX2_performDevice (g : Nat → Int32) (mm : Nat → Nat → Int32) (a1 : Int32) : Nat → Int32 := let j311_g : Nat → Int32 := uX2_performDevice_j311_g g mm a1; j311_g
def mX2_performDevice (g : Nat → Int32) (mm : Nat → Nat → Int32) (a1 : Int32) : Nat → Nat → Int32 := let j311_mm : Nat → Nat → Int32 := uX2_performDevice_j311_mm g mm a1; j311_mm
set_option maxRecDepth 20000 in
set_option maxHeartbeats 4000000 in
theorem c_X2_performDevice (l : Launch) (D : va_G) (cI : ClassId) (q : Nat → Nat) (g : Nat → Int32) (mm : Nat → Nat → Int32) (a1 : Int32) (hq : Cq g) : MI l D cI yX2_performDevice (.code yX2_performDevice cX2_performDevice 2 none) ({ frames := 2, cells := 0, slots := 0, locals := 41 } : Room) [.ref (q 0), .int a1] (cw q cI g mm) (cw q cI (gX2_performDevice g mm a1) (mX2_performDevice g mm a1)) none := by
  refine MI.ofV (own := RX2) (by decide) rfl (Nat.le_of_ble_eq_true rfl) ?_
  intro p e s m args below meth c A ls Q X Z hl hret
  have hT : ∀ w ∈ TB, w ∈ (Cond.code yX2_performDevice cX2_performDevice 2 none :: TB) := fun _ h => List.mem_cons_of_mem _ h
  have hl : lv_has ls 2 [(0, .ref (q 0)), (1, .int a1)] := hl
  refine lv_iload_n X.1 X.2.1 dX2_performDevice_0 rfl (lv_at hl 1 rfl) ?_
  suffices K_311 : ∀ (j311_g : Nat → Int32) (j311_mm : Nat → Nat → Int32) (ls : Array Slot) (H : Heap) (locs : List Loc), j311_g = uX2_performDevice_j311_g g mm a1 → j311_mm = uX2_performDevice_j311_mm g mm a1 → lv_has ls 2 [(0, .ref (q 0)), (1, .int a1)] → ZZ D cI (cw q cI j311_g j311_mm) A s H locs → W p l e ({ frames := 2, cells := 0, slots := 0, locals := 41 } : Room) s m args below meth c H locs 0 0 Q (F0 m 311 ls []) by
    by_cases c_1_3073 : a1 = 3073
    · refine lv_tableIn (tgt := 168) (off := 167) X.1 X.2.1 dX2_performDevice_1 (by rw [c_1_3073]; decide) (by rw [c_1_3073]; decide) (by rw [c_1_3073]; decide) (by decide) ?_
      refine lv_aload_n X.1 X.2.1 dX2_performDevice_168 rfl (lv_at hl 0 rfl) ?_
      refine lv_iconst (v := 1) X.1 X.2.1 dX2_performDevice_169 (by decide) ?_
      refine P_X2_delay X hT Z ⟨rfl, rfl⟩ dX2_performDevice_170 (fun H locs Z => ?_)
      refine lv_goto (tgt := 311) X.1 X.2.1 dX2_performDevice_173 (by decide) ?_
      exact K_311 (upd g 7 1) mm _ _ _ (if_pos c_1_3073).symm (if_pos c_1_3073).symm (lv_sub hl [0, 1] rfl) Z
    · by_cases c_1_3074 : a1 = 3074
      · refine lv_tableIn (tgt := 176) (off := 175) X.1 X.2.1 dX2_performDevice_1 (by rw [c_1_3074]; decide) (by rw [c_1_3074]; decide) (by rw [c_1_3074]; decide) (by decide) ?_
        refine lv_aload_n X.1 X.2.1 dX2_performDevice_176 rfl (lv_at hl 0 rfl) ?_
        refine lv_iconst (v := 0) X.1 X.2.1 dX2_performDevice_177 (by decide) ?_
        refine P_X2_ion X hT Z ⟨rfl, rfl⟩ dX2_performDevice_178 (fun H locs Z => ?_)
        refine lv_aload_n X.1 X.2.1 dX2_performDevice_181 rfl (lv_at hl 0 rfl) ?_
        refine lv_iconst (v := 0) X.1 X.2.1 dX2_performDevice_182 (by decide) ?_
        refine P_X2_delay X hT Z ⟨rfl, rfl⟩ dX2_performDevice_183 (fun H locs Z => ?_)
        refine lv_goto (tgt := 311) X.1 X.2.1 dX2_performDevice_186 (by decide) ?_
        exact K_311 (upd (upd g 6 0) 7 0) mm _ _ _ ((if_neg c_1_3073).trans (if_pos c_1_3074)).symm ((if_neg c_1_3073).trans (if_pos c_1_3074)).symm (lv_sub hl [0, 1] rfl) Z
      · by_cases c_1_3096 : a1 = 3096
        · refine lv_tableIn (tgt := 189) (off := 188) X.1 X.2.1 dX2_performDevice_1 (by rw [c_1_3096]; decide) (by rw [c_1_3096]; decide) (by rw [c_1_3096]; decide) (by decide) ?_
          refine lv_aload_n X.1 X.2.1 dX2_performDevice_189 rfl (lv_at hl 0 rfl) ?_
          refine G_X2_reader X hT Z dX2_performDevice_190 ?_
          refine lv_iconst (v := 0) X.1 X.2.1 dX2_performDevice_193 (by decide) ?_
          refine P_X2_r_flag X hT Z ⟨rfl, rfl⟩ dX2_performDevice_194 (fun H locs Z => ?_)
          refine lv_goto (tgt := 311) X.1 X.2.1 dX2_performDevice_197 (by decide) ?_
          exact K_311 (upd g 14 0) mm _ _ _ ((if_neg c_1_3073).trans ((if_neg c_1_3074).trans (if_pos c_1_3096))).symm ((if_neg c_1_3073).trans ((if_neg c_1_3074).trans (if_pos c_1_3096))).symm (lv_sub hl [0, 1] rfl) Z
        · by_cases c_1_3097 : a1 = 3097
          · refine lv_tableIn (tgt := 200) (off := 199) X.1 X.2.1 dX2_performDevice_1 (by rw [c_1_3097]; decide) (by rw [c_1_3097]; decide) (by rw [c_1_3097]; decide) (by decide) ?_
            refine lv_aload_n X.1 X.2.1 dX2_performDevice_200 rfl (lv_at hl 0 rfl) ?_
            refine lv_aload_n X.1 X.2.1 dX2_performDevice_201 rfl (lv_at hl 0 rfl) ?_
            refine G_X2_reader X hT Z dX2_performDevice_202 ?_
            refine G_X2_r_flag X hT Z dX2_performDevice_205 ?_
            refine call_Vv X hT Z (qq := (RX2, TX2, 15)) k_X2_140 (c_X2_skipIf l D cI q g mm (g 14) ) rfl rfl hd_X2_skipIf ⟨by decide, by decide⟩ ⟨rfl, rfl⟩ hl.1 (rest := []) rfl (Nat.le_of_ble_eq_true rfl) ⟨by decide, by decide⟩ dX2_performDevice_208 (fun H locs Z => ?_)
            refine lv_goto (tgt := 311) X.1 X.2.1 dX2_performDevice_211 (by decide) ?_
            exact K_311 (gX2_skipIf g mm (g 14)) mm _ _ _ ((if_neg c_1_3073).trans ((if_neg c_1_3074).trans ((if_neg c_1_3096).trans (if_pos c_1_3097)))).symm ((if_neg c_1_3073).trans ((if_neg c_1_3074).trans ((if_neg c_1_3096).trans (if_pos c_1_3097)))).symm (lv_sub hl [0, 1] rfl) Z
          · by_cases c_1_3098 : a1 = 3098
            · refine lv_tableIn (tgt := 214) (off := 213) X.1 X.2.1 dX2_performDevice_1 (by rw [c_1_3098]; decide) (by rw [c_1_3098]; decide) (by rw [c_1_3098]; decide) (by decide) ?_
              refine lv_aload_n X.1 X.2.1 dX2_performDevice_214 rfl (lv_at hl 0 rfl) ?_
              refine lv_iconst (v := 0) X.1 X.2.1 dX2_performDevice_215 (by decide) ?_
              refine P_X2_ac X hT Z dX2_performDevice_216 (fun H locs Z => ?_)
              refine lv_aload_n X.1 X.2.1 dX2_performDevice_219 rfl (lv_at hl 0 rfl) ?_
              refine G_X2_reader X hT Z dX2_performDevice_220 ?_
              refine call_Nv X hT Z (wc := rdw (q 2) (q 5) cI ((upd g 0 0) 11) ((upd g 0 0) 12) ((upd g 0 0) 13) ((upd g 0 0) 14) (mm 1)) (wr := [(q 0, .inr (2, [.ref (q 1), .ref (q 2), .ref (q 3), .ref (q 4), .int ((upd g 0 0) 0), .int ((upd g 0 0) 1), .int ((upd g 0 0) 2), .int ((upd g 0 0) 3), .int ((upd g 0 0) 4), .int ((upd g 0 0) 5), .int ((upd g 0 0) 6), .int ((upd g 0 0) 7), .int ((upd g 0 0) 8), .int ((upd g 0 0) 9), .int ((upd g 0 0) 10)])), (q 1, .inl (cI, 4096, .inl (mm 0))), (q 3, .inr (1, [.ref (q 6), .int ((upd g 0 0) 15)])), (q 6, .inl (cI, 64, .inl (mm 2))), (q 4, .inr (1, [.ref (q 7), .int ((upd g 0 0) 16)])), (q 7, .inl (cI, 64, .inl (mm 3)))]) [2, 3] [0, 1, 4, 5, 6, 7] rfl rfl rfl rfl (by decide) (qq := (RX0, TX0, 5)) k_X2_144 (c_X0_restart l D cI (q 2) (q 5) ((upd g 0 0) 11) ((upd g 0 0) 12) ((upd g 0 0) 13) ((upd g 0 0) 14) (mm 1) hq) rfl rfl hd_X0_restart ⟨by decide, by decide⟩ ⟨rfl, rfl⟩ hl.1 (rest := []) rfl (Nat.le_of_ble_eq_true rfl) ⟨by decide, by decide⟩ dX2_performDevice_223 (fun H locs Z => ?_)
              have Z := Z.perm (ws' := cw q cI (upd (upd (upd (upd g 0 0) 12 (tkX0_restart ((upd g 0 0) 11) ((upd g 0 0) 12) ((upd g 0 0) 13) ((upd g 0 0) 14) (mm 1))) 13 (bfX0_restart ((upd g 0 0) 11) ((upd g 0 0) 12) ((upd g 0 0) 13) ((upd g 0 0) 14) (mm 1))) 14 (flX0_restart ((upd g 0 0) 11) ((upd g 0 0) 12) ((upd g 0 0) 13) ((upd g 0 0) 14) (mm 1))) mm) [0, 1, 6, 7, 2, 3, 4, 5] rfl rfl
              refine lv_goto (tgt := 311) X.1 X.2.1 dX2_performDevice_226 (by decide) ?_
              exact K_311 (upd (upd (upd (upd g 0 0) 12 (tkX0_restart ((upd g 0 0) 11) ((upd g 0 0) 12) ((upd g 0 0) 13) ((upd g 0 0) 14) (mm 1))) 13 (bfX0_restart ((upd g 0 0) 11) ((upd g 0 0) 12) ((upd g 0 0) 13) ((upd g 0 0) 14) (mm 1))) 14 (flX0_restart ((upd g 0 0) 11) ((upd g 0 0) 12) ((upd g 0 0) 13) ((upd g 0 0) 14) (mm 1))) mm _ _ _ ((if_neg c_1_3073).trans ((if_neg c_1_3074).trans ((if_neg c_1_3096).trans ((if_neg c_1_3097).trans (if_pos c_1_3098))))).symm ((if_neg c_1_3073).trans ((if_neg c_1_3074).trans ((if_neg c_1_3096).trans ((if_neg c_1_3097).trans (if_pos c_1_3098))))).symm (lv_sub hl [0, 1] rfl) Z
            · by_cases c_1_3100 : a1 = 3100
              · refine lv_tableIn (tgt := 229) (off := 228) X.1 X.2.1 dX2_performDevice_1 (by rw [c_1_3100]; decide) (by rw [c_1_3100]; decide) (by rw [c_1_3100]; decide) (by decide) ?_
                refine lv_aload_n X.1 X.2.1 dX2_performDevice_229 rfl (lv_at hl 0 rfl) ?_
                refine lv_dup X.1 X.2.1 dX2_performDevice_230 rfl ?_
                refine G_X2_ac X hT Z dX2_performDevice_231 ?_
                refine lv_aload_n X.1 X.2.1 dX2_performDevice_234 rfl (lv_at hl 0 rfl) ?_
                refine G_X2_reader X hT Z dX2_performDevice_235 ?_
                refine G_X2_r_buffer X hT Z dX2_performDevice_238 ?_
                refine lv_ior X.1 X.2.1 dX2_performDevice_241 ?_
                refine P_X2_ac X hT Z dX2_performDevice_242 (fun H locs Z => ?_)
                refine lv_goto (tgt := 311) X.1 X.2.1 dX2_performDevice_245 (by decide) ?_
                exact K_311 (upd g 0 ((g 0) ||| (g 13))) mm _ _ _ ((if_neg c_1_3073).trans ((if_neg c_1_3074).trans ((if_neg c_1_3096).trans ((if_neg c_1_3097).trans ((if_neg c_1_3098).trans (if_pos c_1_3100)))))).symm ((if_neg c_1_3073).trans ((if_neg c_1_3074).trans ((if_neg c_1_3096).trans ((if_neg c_1_3097).trans ((if_neg c_1_3098).trans (if_pos c_1_3100)))))).symm (lv_sub hl [0, 1] rfl) Z
              · by_cases c_1_3102 : a1 = 3102
                · refine lv_tableIn (tgt := 248) (off := 247) X.1 X.2.1 dX2_performDevice_1 (by rw [c_1_3102]; decide) (by rw [c_1_3102]; decide) (by rw [c_1_3102]; decide) (by decide) ?_
                  refine lv_aload_n X.1 X.2.1 dX2_performDevice_248 rfl (lv_at hl 0 rfl) ?_
                  refine lv_aload_n X.1 X.2.1 dX2_performDevice_249 rfl (lv_at hl 0 rfl) ?_
                  refine G_X2_reader X hT Z dX2_performDevice_250 ?_
                  refine G_X2_r_buffer X hT Z dX2_performDevice_253 ?_
                  refine P_X2_ac X hT Z dX2_performDevice_256 (fun H locs Z => ?_)
                  refine lv_aload_n X.1 X.2.1 dX2_performDevice_259 rfl (lv_at hl 0 rfl) ?_
                  refine G_X2_reader X hT Z dX2_performDevice_260 ?_
                  refine call_Nv X hT Z (wc := rdw (q 2) (q 5) cI ((upd g 0 (g 13)) 11) ((upd g 0 (g 13)) 12) ((upd g 0 (g 13)) 13) ((upd g 0 (g 13)) 14) (mm 1)) (wr := [(q 0, .inr (2, [.ref (q 1), .ref (q 2), .ref (q 3), .ref (q 4), .int ((upd g 0 (g 13)) 0), .int ((upd g 0 (g 13)) 1), .int ((upd g 0 (g 13)) 2), .int ((upd g 0 (g 13)) 3), .int ((upd g 0 (g 13)) 4), .int ((upd g 0 (g 13)) 5), .int ((upd g 0 (g 13)) 6), .int ((upd g 0 (g 13)) 7), .int ((upd g 0 (g 13)) 8), .int ((upd g 0 (g 13)) 9), .int ((upd g 0 (g 13)) 10)])), (q 1, .inl (cI, 4096, .inl (mm 0))), (q 3, .inr (1, [.ref (q 6), .int ((upd g 0 (g 13)) 15)])), (q 6, .inl (cI, 64, .inl (mm 2))), (q 4, .inr (1, [.ref (q 7), .int ((upd g 0 (g 13)) 16)])), (q 7, .inl (cI, 64, .inl (mm 3)))]) [2, 3] [0, 1, 4, 5, 6, 7] rfl rfl rfl rfl (by decide) (qq := (RX0, TX0, 5)) k_X2_144 (c_X0_restart l D cI (q 2) (q 5) ((upd g 0 (g 13)) 11) ((upd g 0 (g 13)) 12) ((upd g 0 (g 13)) 13) ((upd g 0 (g 13)) 14) (mm 1) hq) rfl rfl hd_X0_restart ⟨by decide, by decide⟩ ⟨rfl, rfl⟩ hl.1 (rest := []) rfl (Nat.le_of_ble_eq_true rfl) ⟨by decide, by decide⟩ dX2_performDevice_263 (fun H locs Z => ?_)
                  have Z := Z.perm (ws' := cw q cI (upd (upd (upd (upd g 0 (g 13)) 12 (tkX0_restart ((upd g 0 (g 13)) 11) ((upd g 0 (g 13)) 12) ((upd g 0 (g 13)) 13) ((upd g 0 (g 13)) 14) (mm 1))) 13 (bfX0_restart ((upd g 0 (g 13)) 11) ((upd g 0 (g 13)) 12) ((upd g 0 (g 13)) 13) ((upd g 0 (g 13)) 14) (mm 1))) 14 (flX0_restart ((upd g 0 (g 13)) 11) ((upd g 0 (g 13)) 12) ((upd g 0 (g 13)) 13) ((upd g 0 (g 13)) 14) (mm 1))) mm) [0, 1, 6, 7, 2, 3, 4, 5] rfl rfl
                  refine lv_goto (tgt := 311) X.1 X.2.1 dX2_performDevice_266 (by decide) ?_
                  exact K_311 (upd (upd (upd (upd g 0 (g 13)) 12 (tkX0_restart ((upd g 0 (g 13)) 11) ((upd g 0 (g 13)) 12) ((upd g 0 (g 13)) 13) ((upd g 0 (g 13)) 14) (mm 1))) 13 (bfX0_restart ((upd g 0 (g 13)) 11) ((upd g 0 (g 13)) 12) ((upd g 0 (g 13)) 13) ((upd g 0 (g 13)) 14) (mm 1))) 14 (flX0_restart ((upd g 0 (g 13)) 11) ((upd g 0 (g 13)) 12) ((upd g 0 (g 13)) 13) ((upd g 0 (g 13)) 14) (mm 1))) mm _ _ _ ((if_neg c_1_3073).trans ((if_neg c_1_3074).trans ((if_neg c_1_3096).trans ((if_neg c_1_3097).trans ((if_neg c_1_3098).trans ((if_neg c_1_3100).trans (if_pos c_1_3102))))))).symm ((if_neg c_1_3073).trans ((if_neg c_1_3074).trans ((if_neg c_1_3096).trans ((if_neg c_1_3097).trans ((if_neg c_1_3098).trans ((if_neg c_1_3100).trans (if_pos c_1_3102))))))).symm (lv_sub hl [0, 1] rfl) Z
                · by_cases c_1_3105 : a1 = 3105
                  · refine lv_tableIn (tgt := 269) (off := 268) X.1 X.2.1 dX2_performDevice_1 (by rw [c_1_3105]; decide) (by rw [c_1_3105]; decide) (by rw [c_1_3105]; decide) (by decide) ?_
                    refine lv_aload_n X.1 X.2.1 dX2_performDevice_269 rfl (lv_at hl 0 rfl) ?_
                    refine lv_aload_n X.1 X.2.1 dX2_performDevice_270 rfl (lv_at hl 0 rfl) ?_
                    refine G_X2_printerFlag X hT Z dX2_performDevice_271 ?_
                    refine call_Vv X hT Z (qq := (RX2, TX2, 15)) k_X2_140 (c_X2_skipIf l D cI q g mm (g 8) ) rfl rfl hd_X2_skipIf ⟨by decide, by decide⟩ ⟨rfl, rfl⟩ hl.1 (rest := []) rfl (Nat.le_of_ble_eq_true rfl) ⟨by decide, by decide⟩ dX2_performDevice_274 (fun H locs Z => ?_)
                    refine lv_goto (tgt := 311) X.1 X.2.1 dX2_performDevice_277 (by decide) ?_
                    exact K_311 (gX2_skipIf g mm (g 8)) mm _ _ _ ((if_neg c_1_3073).trans ((if_neg c_1_3074).trans ((if_neg c_1_3096).trans ((if_neg c_1_3097).trans ((if_neg c_1_3098).trans ((if_neg c_1_3100).trans ((if_neg c_1_3102).trans (if_pos c_1_3105)))))))).symm ((if_neg c_1_3073).trans ((if_neg c_1_3074).trans ((if_neg c_1_3096).trans ((if_neg c_1_3097).trans ((if_neg c_1_3098).trans ((if_neg c_1_3100).trans ((if_neg c_1_3102).trans (if_pos c_1_3105)))))))).symm (lv_sub hl [0, 1] rfl) Z
                  · by_cases c_1_3106 : a1 = 3106
                    · refine lv_tableIn (tgt := 280) (off := 279) X.1 X.2.1 dX2_performDevice_1 (by rw [c_1_3106]; decide) (by rw [c_1_3106]; decide) (by rw [c_1_3106]; decide) (by decide) ?_
                      refine lv_aload_n X.1 X.2.1 dX2_performDevice_280 rfl (lv_at hl 0 rfl) ?_
                      refine lv_iconst (v := 0) X.1 X.2.1 dX2_performDevice_281 (by decide) ?_
                      refine P_X2_printerFlag X hT Z ⟨rfl, rfl⟩ dX2_performDevice_282 (fun H locs Z => ?_)
                      refine lv_goto (tgt := 311) X.1 X.2.1 dX2_performDevice_285 (by decide) ?_
                      exact K_311 (upd g 8 0) mm _ _ _ ((if_neg c_1_3073).trans ((if_neg c_1_3074).trans ((if_neg c_1_3096).trans ((if_neg c_1_3097).trans ((if_neg c_1_3098).trans ((if_neg c_1_3100).trans ((if_neg c_1_3102).trans ((if_neg c_1_3105).trans (if_pos c_1_3106))))))))).symm ((if_neg c_1_3073).trans ((if_neg c_1_3074).trans ((if_neg c_1_3096).trans ((if_neg c_1_3097).trans ((if_neg c_1_3098).trans ((if_neg c_1_3100).trans ((if_neg c_1_3102).trans ((if_neg c_1_3105).trans (if_pos c_1_3106))))))))).symm (lv_sub hl [0, 1] rfl) Z
                    · by_cases c_1_3108 : a1 = 3108
                      · refine lv_tableIn (tgt := 288) (off := 287) X.1 X.2.1 dX2_performDevice_1 (by rw [c_1_3108]; decide) (by rw [c_1_3108]; decide) (by rw [c_1_3108]; decide) (by decide) ?_
                        refine lv_aload_n X.1 X.2.1 dX2_performDevice_288 rfl (lv_at hl 0 rfl) ?_
                        refine G_X2_prints X hT Z dX2_performDevice_289 ?_
                        refine lv_aload_n X.1 X.2.1 dX2_performDevice_292 rfl (lv_at hl 0 rfl) ?_
                        refine G_X2_ac X hT Z dX2_performDevice_293 ?_
                        refine lv_sipush (v := 255) X.1 X.2.1 dX2_performDevice_296 (by decide) ?_
                        refine lv_iand X.1 X.2.1 dX2_performDevice_299 ?_
                        refine call_Nv X hT Z (wc := rcw (q 3) (q 6) cI (g 15) (mm 2)) (wr := [(q 0, .inr (2, [.ref (q 1), .ref (q 2), .ref (q 3), .ref (q 4), .int (g 0), .int (g 1), .int (g 2), .int (g 3), .int (g 4), .int (g 5), .int (g 6), .int (g 7), .int (g 8), .int (g 9), .int (g 10)])), (q 1, .inl (cI, 4096, .inl (mm 0))), (q 2, .inr (0, [.ref (q 5), .int (g 11), .int (g 12), .int (g 13), .int (g 14)])), (q 5, .inl (cI, 400, .inl (mm 1))), (q 4, .inr (1, [.ref (q 7), .int (g 16)])), (q 7, .inl (cI, 64, .inl (mm 3)))]) [4, 5] [0, 1, 2, 3, 6, 7] rfl rfl rfl rfl (by decide) (qq := (RX1, TX1, 2)) k_X2_109 (c_X1_add l D cI (q 3) (q 6) (g 15) (mm 2) ((g 0) &&& 255) ) rfl rfl hd_X1_add ⟨by decide, by decide⟩ ⟨rfl, rfl⟩ hl.1 (rest := []) rfl (Nat.le_of_ble_eq_true rfl) ⟨by decide, by decide⟩ dX2_performDevice_300 (fun H locs Z => ?_)
                        have Z := Z.perm (ws' := cw q cI (upd g 15 (ctX1_add (g 15) (mm 2) ((g 0) &&& 255))) (va_up mm 2 (rwX1_add (g 15) (mm 2) ((g 0) &&& 255)))) [0, 1, 2, 3, 6, 7, 4, 5] rfl rfl
                        refine lv_aload_n X.1 X.2.1 dX2_performDevice_303 rfl (lv_at hl 0 rfl) ?_
                        refine lv_iconst (v := 1) X.1 X.2.1 dX2_performDevice_304 (by decide) ?_
                        refine P_X2_printerFlag X hT Z ⟨rfl, rfl⟩ dX2_performDevice_305 (fun H locs Z => ?_)
                        refine lv_goto (tgt := 311) X.1 X.2.1 dX2_performDevice_308 (by decide) ?_
                        exact K_311 (upd (upd g 15 (ctX1_add (g 15) (mm 2) ((g 0) &&& 255))) 8 1) (va_up mm 2 (rwX1_add (g 15) (mm 2) ((g 0) &&& 255))) _ _ _ ((if_neg c_1_3073).trans ((if_neg c_1_3074).trans ((if_neg c_1_3096).trans ((if_neg c_1_3097).trans ((if_neg c_1_3098).trans ((if_neg c_1_3100).trans ((if_neg c_1_3102).trans ((if_neg c_1_3105).trans ((if_neg c_1_3106).trans (if_pos c_1_3108)))))))))).symm ((if_neg c_1_3073).trans ((if_neg c_1_3074).trans ((if_neg c_1_3096).trans ((if_neg c_1_3097).trans ((if_neg c_1_3098).trans ((if_neg c_1_3100).trans ((if_neg c_1_3102).trans ((if_neg c_1_3105).trans ((if_neg c_1_3106).trans (if_pos c_1_3108)))))))))).symm (lv_sub hl [0, 1] rfl) Z
                      · by_cases c_1_3110 : a1 = 3110
                        · refine lv_tableIn (tgt := 288) (off := 287) X.1 X.2.1 dX2_performDevice_1 (by rw [c_1_3110]; decide) (by rw [c_1_3110]; decide) (by rw [c_1_3110]; decide) (by decide) ?_
                          refine lv_aload_n X.1 X.2.1 dX2_performDevice_288 rfl (lv_at hl 0 rfl) ?_
                          refine G_X2_prints X hT Z dX2_performDevice_289 ?_
                          refine lv_aload_n X.1 X.2.1 dX2_performDevice_292 rfl (lv_at hl 0 rfl) ?_
                          refine G_X2_ac X hT Z dX2_performDevice_293 ?_
                          refine lv_sipush (v := 255) X.1 X.2.1 dX2_performDevice_296 (by decide) ?_
                          refine lv_iand X.1 X.2.1 dX2_performDevice_299 ?_
                          refine call_Nv X hT Z (wc := rcw (q 3) (q 6) cI (g 15) (mm 2)) (wr := [(q 0, .inr (2, [.ref (q 1), .ref (q 2), .ref (q 3), .ref (q 4), .int (g 0), .int (g 1), .int (g 2), .int (g 3), .int (g 4), .int (g 5), .int (g 6), .int (g 7), .int (g 8), .int (g 9), .int (g 10)])), (q 1, .inl (cI, 4096, .inl (mm 0))), (q 2, .inr (0, [.ref (q 5), .int (g 11), .int (g 12), .int (g 13), .int (g 14)])), (q 5, .inl (cI, 400, .inl (mm 1))), (q 4, .inr (1, [.ref (q 7), .int (g 16)])), (q 7, .inl (cI, 64, .inl (mm 3)))]) [4, 5] [0, 1, 2, 3, 6, 7] rfl rfl rfl rfl (by decide) (qq := (RX1, TX1, 2)) k_X2_109 (c_X1_add l D cI (q 3) (q 6) (g 15) (mm 2) ((g 0) &&& 255) ) rfl rfl hd_X1_add ⟨by decide, by decide⟩ ⟨rfl, rfl⟩ hl.1 (rest := []) rfl (Nat.le_of_ble_eq_true rfl) ⟨by decide, by decide⟩ dX2_performDevice_300 (fun H locs Z => ?_)
                          have Z := Z.perm (ws' := cw q cI (upd g 15 (ctX1_add (g 15) (mm 2) ((g 0) &&& 255))) (va_up mm 2 (rwX1_add (g 15) (mm 2) ((g 0) &&& 255)))) [0, 1, 2, 3, 6, 7, 4, 5] rfl rfl
                          refine lv_aload_n X.1 X.2.1 dX2_performDevice_303 rfl (lv_at hl 0 rfl) ?_
                          refine lv_iconst (v := 1) X.1 X.2.1 dX2_performDevice_304 (by decide) ?_
                          refine P_X2_printerFlag X hT Z ⟨rfl, rfl⟩ dX2_performDevice_305 (fun H locs Z => ?_)
                          refine lv_goto (tgt := 311) X.1 X.2.1 dX2_performDevice_308 (by decide) ?_
                          exact K_311 (upd (upd g 15 (ctX1_add (g 15) (mm 2) ((g 0) &&& 255))) 8 1) (va_up mm 2 (rwX1_add (g 15) (mm 2) ((g 0) &&& 255))) _ _ _ ((if_neg c_1_3073).trans ((if_neg c_1_3074).trans ((if_neg c_1_3096).trans ((if_neg c_1_3097).trans ((if_neg c_1_3098).trans ((if_neg c_1_3100).trans ((if_neg c_1_3102).trans ((if_neg c_1_3105).trans ((if_neg c_1_3106).trans ((if_neg c_1_3108).trans (if_pos c_1_3110))))))))))).symm ((if_neg c_1_3073).trans ((if_neg c_1_3074).trans ((if_neg c_1_3096).trans ((if_neg c_1_3097).trans ((if_neg c_1_3098).trans ((if_neg c_1_3100).trans ((if_neg c_1_3102).trans ((if_neg c_1_3105).trans ((if_neg c_1_3106).trans ((if_neg c_1_3108).trans (if_pos c_1_3110))))))))))).symm (lv_sub hl [0, 1] rfl) Z
                        · by_cases hsw : a1.toInt < 3073 ∨ 3110 < a1.toInt
                          · refine lv_tableOut (tgt := 311) X.1 X.2.1 dX2_performDevice_1 hsw (by decide) ?_
                            exact K_311 g mm _ _ _ ((if_neg c_1_3073).trans ((if_neg c_1_3074).trans ((if_neg c_1_3096).trans ((if_neg c_1_3097).trans ((if_neg c_1_3098).trans ((if_neg c_1_3100).trans ((if_neg c_1_3102).trans ((if_neg c_1_3105).trans ((if_neg c_1_3106).trans ((if_neg c_1_3108).trans (if_neg c_1_3110))))))))))).symm ((if_neg c_1_3073).trans ((if_neg c_1_3074).trans ((if_neg c_1_3096).trans ((if_neg c_1_3097).trans ((if_neg c_1_3098).trans ((if_neg c_1_3100).trans ((if_neg c_1_3102).trans ((if_neg c_1_3105).trans ((if_neg c_1_3106).trans ((if_neg c_1_3108).trans (if_neg c_1_3110))))))))))).symm (lv_sub hl [0, 1] rfl) Z
                          · obtain ⟨j, hj, hx⟩ := sw_def hsw
                            have hne : j ≠ 0 ∧ j ≠ 1 ∧ j ≠ 23 ∧ j ≠ 24 ∧ j ≠ 25 ∧ j ≠ 27 ∧ j ≠ 29 ∧ j ≠ 32 ∧ j ≠ 33 ∧ j ≠ 35 ∧ j ≠ 37 := ⟨(fun h => absurd (by omega) (lv_neT (a := 3073) c_1_3073 (by decide))), (fun h => absurd (by omega) (lv_neT (a := 3074) c_1_3074 (by decide))), (fun h => absurd (by omega) (lv_neT (a := 3096) c_1_3096 (by decide))), (fun h => absurd (by omega) (lv_neT (a := 3097) c_1_3097 (by decide))), (fun h => absurd (by omega) (lv_neT (a := 3098) c_1_3098 (by decide))), (fun h => absurd (by omega) (lv_neT (a := 3100) c_1_3100 (by decide))), (fun h => absurd (by omega) (lv_neT (a := 3102) c_1_3102 (by decide))), (fun h => absurd (by omega) (lv_neT (a := 3105) c_1_3105 (by decide))), (fun h => absurd (by omega) (lv_neT (a := 3106) c_1_3106 (by decide))), (fun h => absurd (by omega) (lv_neT (a := 3108) c_1_3108 (by decide))), (fun h => absurd (by omega) (lv_neT (a := 3110) c_1_3110 (by decide)))⟩
                            have hsv : ∀ j : Nat, j < 38 → (j ≠ 0 ∧ j ≠ 1 ∧ j ≠ 23 ∧ j ≠ 24 ∧ j ≠ 25 ∧ j ≠ 27 ∧ j ≠ 29 ∧ j ≠ 32 ∧ j ≠ 33 ∧ j ≠ 35 ∧ j ≠ 37) → (#[167, 175, 310, 310, 310, 310, 310, 310, 310, 310, 310, 310, 310, 310, 310, 310, 310, 310, 310, 310, 310, 310, 310, 188, 199, 213, 310, 228, 310, 247, 310, 310, 268, 279, 310, 287, 310, 287] : Array Int)[j]? = some 310 := by decide
                            refine lv_tableIn (tgt := 311) (off := 310) X.1 X.2.1 dX2_performDevice_1 (by omega) (by omega) (by rw [show (a1.toInt - 3073).toNat = j by omega]; exact hsv j (by omega) hne) (by decide) ?_
                            exact K_311 g mm _ _ _ ((if_neg c_1_3073).trans ((if_neg c_1_3074).trans ((if_neg c_1_3096).trans ((if_neg c_1_3097).trans ((if_neg c_1_3098).trans ((if_neg c_1_3100).trans ((if_neg c_1_3102).trans ((if_neg c_1_3105).trans ((if_neg c_1_3106).trans ((if_neg c_1_3108).trans (if_neg c_1_3110))))))))))).symm ((if_neg c_1_3073).trans ((if_neg c_1_3074).trans ((if_neg c_1_3096).trans ((if_neg c_1_3097).trans ((if_neg c_1_3098).trans ((if_neg c_1_3100).trans ((if_neg c_1_3102).trans ((if_neg c_1_3105).trans ((if_neg c_1_3106).trans ((if_neg c_1_3108).trans (if_neg c_1_3110))))))))))).symm (lv_sub hl [0, 1] rfl) Z
  intro j311_g j311_mm ls H locs e_j311_g e_j311_mm hl Z
  exact hret _ _ _ _ _ Z (cw_eq (by subst e_j311_g e_j311_mm; exact rfl) (by subst e_j311_g e_j311_mm; exact rfl)) dX2_performDevice_311
def uX2_changeAccumulator_j15_g (g : Nat → Int32) (a1 : Int32) : Nat → Int32 := if (rX2_has a1 128) = 0 then (g) else ((upd g 0 0))
def uX2_changeAccumulator_j29_g (a1 : Int32) (j15_g : Nat → Int32) : Nat → Int32 := if (rX2_has a1 64) = 0 then (j15_g) else ((upd j15_g 1 0))
def uX2_changeAccumulator_j50_g (a1 : Int32) (j29_g : Nat → Int32) : Nat → Int32 := if (rX2_has a1 32) = 0 then (j29_g) else ((upd j29_g 0 ((j29_g 0) ^^^ 4095)))
def uX2_changeAccumulator_j69_g (a1 : Int32) (j50_g : Nat → Int32) : Nat → Int32 := if (rX2_has a1 16) = 0 then (j50_g) else ((upd j50_g 1 ((j50_g 1) ^^^ 1)))
def uX2_changeAccumulator_j82_g (mm : Nat → Nat → Int32) (a1 : Int32) (j69_g : Nat → Int32) : Nat → Int32 := if (rX2_has a1 1) = 0 then (j69_g) else ((gX2_add j69_g mm 1))
def uX2_changeAccumulator_j95_s0 (a1 : Int32) : Int32 := if (rX2_has a1 2) = 0 then (1) else (2)
def uX2_changeAccumulator_j144_g (mm : Nat → Nat → Int32) (a1 : Int32) (j82_g : Nat → Int32) (j95_s0 : Int32) : Nat → Int32 := if (rX2_has a1 4) = 0 then (if (rX2_has a1 8) = 0 then (j82_g) else (if (rX2_has a1 4) = 0 then ((gX2_turnLeft j82_g mm (13 - j95_s0))) else (j82_g))) else (if (rX2_has a1 8) = 0 then ((gX2_turnLeft j82_g mm j95_s0)) else (if (rX2_has a1 8) = 0 then (j82_g) else (if (rX2_has a1 4) = 0 then ((gX2_turnLeft j82_g mm (13 - j95_s0))) else (j82_g))))
def gX2_changeAccumulator (g : Nat → Int32) (mm : Nat → Nat → Int32) (a1 : Int32) : Nat → Int32 := let j15_g : Nat → Int32 := uX2_changeAccumulator_j15_g g a1; let j29_g : Nat → Int32 := uX2_changeAccumulator_j29_g a1 j15_g; let j50_g : Nat → Int32 := uX2_changeAccumulator_j50_g a1 j29_g; let j69_g : Nat → Int32 := uX2_changeAccumulator_j69_g a1 j50_g; let j82_g : Nat → Int32 := uX2_changeAccumulator_j82_g mm a1 j69_g; let j95_s0 : Int32 := uX2_changeAccumulator_j95_s0 a1; let j144_g : Nat → Int32 := uX2_changeAccumulator_j144_g mm a1 j82_g j95_s0; j144_g
set_option maxRecDepth 20000 in
set_option maxHeartbeats 4000000 in
theorem c_X2_changeAccumulator (l : Launch) (D : va_G) (cI : ClassId) (q : Nat → Nat) (g : Nat → Int32) (mm : Nat → Nat → Int32) (a1 : Int32)  : MI l D cI yX2_changeAccumulator (.code yX2_changeAccumulator cX2_changeAccumulator 5 none) ({ frames := 1, cells := 0, slots := 0, locals := 23 } : Room) [.ref (q 0), .int a1] (cw q cI g mm) (cw q cI (gX2_changeAccumulator g mm a1) mm) none := by
  refine MI.ofV (own := RX2) (by decide) rfl (Nat.le_of_ble_eq_true rfl) ?_
  intro p e s m args below meth c A ls Q X Z hl hret
  have hT : ∀ w ∈ TB, w ∈ (Cond.code yX2_changeAccumulator cX2_changeAccumulator 5 none :: TB) := fun _ h => List.mem_cons_of_mem _ h
  have hl : lv_has ls 5 [(0, .ref (q 0)), (1, .int a1)] := hl
  refine lv_iload_n X.1 X.2.1 dX2_changeAccumulator_0 rfl (lv_at hl 1 rfl) ?_
  refine lv_sipush (v := 128) X.1 X.2.1 dX2_changeAccumulator_1 (by decide) ?_
  refine call_Si X hT Z k_X2_126 (c_X2_has l D cI (cw q cI g mm) a1 128 ) hd_X2_has ⟨by decide, by decide⟩ ⟨rfl, rfl⟩ hl.1 (rest := []) rfl (Nat.le_of_ble_eq_true rfl) ⟨by decide, by decide⟩ dX2_changeAccumulator_4 (fun H locs Z => ?_)
  suffices K_15 : ∀ (j15_g : Nat → Int32) (ls : Array Slot) (H : Heap) (locs : List Loc), j15_g = uX2_changeAccumulator_j15_g g a1 → lv_has ls 5 [(0, .ref (q 0)), (1, .int a1)] → ZZ D cI (cw q cI j15_g mm) A s H locs → W p l e ({ frames := 1, cells := 0, slots := 0, locals := 23 } : Room) s m args below meth c H locs 0 0 Q (F0 m 15 ls []) by
    refine lv_if_eq (tgt := 15) X.1 X.2.1 dX2_changeAccumulator_7 (by decide) (fun c_7 => ?_) (fun c_7 => ?_)
    · exact K_15 g _ _ _ (if_pos c_7).symm (lv_sub hl [0, 1] rfl) Z
    · refine lv_aload_n X.1 X.2.1 dX2_changeAccumulator_10 rfl (lv_at hl 0 rfl) ?_
      refine lv_iconst (v := 0) X.1 X.2.1 dX2_changeAccumulator_11 (by decide) ?_
      refine P_X2_ac X hT Z dX2_changeAccumulator_12 (fun H locs Z => ?_)
      exact K_15 (upd g 0 0) _ _ _ (if_neg c_7).symm (lv_sub hl [0, 1] rfl) Z
  intro j15_g ls H locs e_j15_g hl Z
  refine lv_iload_n X.1 X.2.1 dX2_changeAccumulator_15 rfl (lv_at hl 1 rfl) ?_
  refine lv_bipush (v := 64) X.1 X.2.1 dX2_changeAccumulator_16 (by decide) ?_
  refine call_Si X hT Z k_X2_126 (c_X2_has l D cI (cw q cI j15_g mm) a1 64 ) hd_X2_has ⟨by decide, by decide⟩ ⟨rfl, rfl⟩ hl.1 (rest := []) rfl (Nat.le_of_ble_eq_true rfl) ⟨by decide, by decide⟩ dX2_changeAccumulator_18 (fun H locs Z => ?_)
  suffices K_29 : ∀ (j29_g : Nat → Int32) (ls : Array Slot) (H : Heap) (locs : List Loc), j29_g = uX2_changeAccumulator_j29_g a1 j15_g → lv_has ls 5 [(0, .ref (q 0)), (1, .int a1)] → ZZ D cI (cw q cI j29_g mm) A s H locs → W p l e ({ frames := 1, cells := 0, slots := 0, locals := 23 } : Room) s m args below meth c H locs 0 0 Q (F0 m 29 ls []) by
    refine lv_if_eq (tgt := 29) X.1 X.2.1 dX2_changeAccumulator_21 (by decide) (fun c_21 => ?_) (fun c_21 => ?_)
    · exact K_29 j15_g _ _ _ (if_pos c_21).symm (lv_sub hl [0, 1] rfl) Z
    · refine lv_aload_n X.1 X.2.1 dX2_changeAccumulator_24 rfl (lv_at hl 0 rfl) ?_
      refine lv_iconst (v := 0) X.1 X.2.1 dX2_changeAccumulator_25 (by decide) ?_
      refine P_X2_link X hT Z dX2_changeAccumulator_26 (fun H locs Z => ?_)
      exact K_29 (upd j15_g 1 0) _ _ _ (if_neg c_21).symm (lv_sub hl [0, 1] rfl) Z
  intro j29_g ls H locs e_j29_g hl Z
  refine lv_iload_n X.1 X.2.1 dX2_changeAccumulator_29 rfl (lv_at hl 1 rfl) ?_
  refine lv_bipush (v := 32) X.1 X.2.1 dX2_changeAccumulator_30 (by decide) ?_
  refine call_Si X hT Z k_X2_126 (c_X2_has l D cI (cw q cI j29_g mm) a1 32 ) hd_X2_has ⟨by decide, by decide⟩ ⟨rfl, rfl⟩ hl.1 (rest := []) rfl (Nat.le_of_ble_eq_true rfl) ⟨by decide, by decide⟩ dX2_changeAccumulator_32 (fun H locs Z => ?_)
  suffices K_50 : ∀ (j50_g : Nat → Int32) (ls : Array Slot) (H : Heap) (locs : List Loc), j50_g = uX2_changeAccumulator_j50_g a1 j29_g → lv_has ls 5 [(0, .ref (q 0)), (1, .int a1)] → ZZ D cI (cw q cI j50_g mm) A s H locs → W p l e ({ frames := 1, cells := 0, slots := 0, locals := 23 } : Room) s m args below meth c H locs 0 0 Q (F0 m 50 ls []) by
    refine lv_if_eq (tgt := 50) X.1 X.2.1 dX2_changeAccumulator_35 (by decide) (fun c_35 => ?_) (fun c_35 => ?_)
    · exact K_50 j29_g _ _ _ (if_pos c_35).symm (lv_sub hl [0, 1] rfl) Z
    · refine lv_aload_n X.1 X.2.1 dX2_changeAccumulator_38 rfl (lv_at hl 0 rfl) ?_
      refine lv_dup X.1 X.2.1 dX2_changeAccumulator_39 rfl ?_
      refine G_X2_ac X hT Z dX2_changeAccumulator_40 ?_
      refine lv_sipush (v := 4095) X.1 X.2.1 dX2_changeAccumulator_43 (by decide) ?_
      refine lv_ixor X.1 X.2.1 dX2_changeAccumulator_46 ?_
      refine P_X2_ac X hT Z dX2_changeAccumulator_47 (fun H locs Z => ?_)
      exact K_50 (upd j29_g 0 ((j29_g 0) ^^^ 4095)) _ _ _ (if_neg c_35).symm (lv_sub hl [0, 1] rfl) Z
  intro j50_g ls H locs e_j50_g hl Z
  refine lv_iload_n X.1 X.2.1 dX2_changeAccumulator_50 rfl (lv_at hl 1 rfl) ?_
  refine lv_bipush (v := 16) X.1 X.2.1 dX2_changeAccumulator_51 (by decide) ?_
  refine call_Si X hT Z k_X2_126 (c_X2_has l D cI (cw q cI j50_g mm) a1 16 ) hd_X2_has ⟨by decide, by decide⟩ ⟨rfl, rfl⟩ hl.1 (rest := []) rfl (Nat.le_of_ble_eq_true rfl) ⟨by decide, by decide⟩ dX2_changeAccumulator_53 (fun H locs Z => ?_)
  suffices K_69 : ∀ (j69_g : Nat → Int32) (ls : Array Slot) (H : Heap) (locs : List Loc), j69_g = uX2_changeAccumulator_j69_g a1 j50_g → lv_has ls 5 [(0, .ref (q 0)), (1, .int a1)] → ZZ D cI (cw q cI j69_g mm) A s H locs → W p l e ({ frames := 1, cells := 0, slots := 0, locals := 23 } : Room) s m args below meth c H locs 0 0 Q (F0 m 69 ls []) by
    refine lv_if_eq (tgt := 69) X.1 X.2.1 dX2_changeAccumulator_56 (by decide) (fun c_56 => ?_) (fun c_56 => ?_)
    · exact K_69 j50_g _ _ _ (if_pos c_56).symm (lv_sub hl [0, 1] rfl) Z
    · refine lv_aload_n X.1 X.2.1 dX2_changeAccumulator_59 rfl (lv_at hl 0 rfl) ?_
      refine lv_dup X.1 X.2.1 dX2_changeAccumulator_60 rfl ?_
      refine G_X2_link X hT Z dX2_changeAccumulator_61 ?_
      refine lv_iconst (v := 1) X.1 X.2.1 dX2_changeAccumulator_64 (by decide) ?_
      refine lv_ixor X.1 X.2.1 dX2_changeAccumulator_65 ?_
      refine P_X2_link X hT Z dX2_changeAccumulator_66 (fun H locs Z => ?_)
      exact K_69 (upd j50_g 1 ((j50_g 1) ^^^ 1)) _ _ _ (if_neg c_56).symm (lv_sub hl [0, 1] rfl) Z
  intro j69_g ls H locs e_j69_g hl Z
  refine lv_iload_n X.1 X.2.1 dX2_changeAccumulator_69 rfl (lv_at hl 1 rfl) ?_
  refine lv_iconst (v := 1) X.1 X.2.1 dX2_changeAccumulator_70 (by decide) ?_
  refine call_Si X hT Z k_X2_126 (c_X2_has l D cI (cw q cI j69_g mm) a1 1 ) hd_X2_has ⟨by decide, by decide⟩ ⟨rfl, rfl⟩ hl.1 (rest := []) rfl (Nat.le_of_ble_eq_true rfl) ⟨by decide, by decide⟩ dX2_changeAccumulator_71 (fun H locs Z => ?_)
  suffices K_82 : ∀ (j82_g : Nat → Int32) (ls : Array Slot) (H : Heap) (locs : List Loc), j82_g = uX2_changeAccumulator_j82_g mm a1 j69_g → lv_has ls 5 [(0, .ref (q 0)), (1, .int a1)] → ZZ D cI (cw q cI j82_g mm) A s H locs → W p l e ({ frames := 1, cells := 0, slots := 0, locals := 23 } : Room) s m args below meth c H locs 0 0 Q (F0 m 82 ls []) by
    refine lv_if_eq (tgt := 82) X.1 X.2.1 dX2_changeAccumulator_74 (by decide) (fun c_74 => ?_) (fun c_74 => ?_)
    · exact K_82 j69_g _ _ _ (if_pos c_74).symm (lv_sub hl [0, 1] rfl) Z
    · refine lv_aload_n X.1 X.2.1 dX2_changeAccumulator_77 rfl (lv_at hl 0 rfl) ?_
      refine lv_iconst (v := 1) X.1 X.2.1 dX2_changeAccumulator_78 (by decide) ?_
      refine call_Vv X hT Z (qq := (RX2, TX2, 15)) k_X2_139 (c_X2_add l D cI q j69_g mm 1 ) rfl rfl hd_X2_add ⟨by decide, by decide⟩ ⟨rfl, rfl⟩ hl.1 (rest := []) rfl (Nat.le_of_ble_eq_true rfl) ⟨by decide, by decide⟩ dX2_changeAccumulator_79 (fun H locs Z => ?_)
      exact K_82 (gX2_add j69_g mm 1) _ _ _ (if_neg c_74).symm (lv_sub hl [0, 1] rfl) Z
  intro j82_g ls H locs e_j82_g hl Z
  refine lv_iload_n X.1 X.2.1 dX2_changeAccumulator_82 rfl (lv_at hl 1 rfl) ?_
  refine lv_iconst (v := 2) X.1 X.2.1 dX2_changeAccumulator_83 (by decide) ?_
  refine call_Si X hT Z k_X2_126 (c_X2_has l D cI (cw q cI j82_g mm) a1 2 ) hd_X2_has ⟨by decide, by decide⟩ ⟨rfl, rfl⟩ hl.1 (rest := []) rfl (Nat.le_of_ble_eq_true rfl) ⟨by decide, by decide⟩ dX2_changeAccumulator_84 (fun H locs Z => ?_)
  suffices K_95 : ∀ (j95_s0 : Int32) (ls : Array Slot) (H : Heap) (locs : List Loc), j95_s0 = uX2_changeAccumulator_j95_s0 a1 → lv_has ls 5 [(0, .ref (q 0)), (1, .int a1)] → ZZ D cI (cw q cI j82_g mm) A s H locs → W p l e ({ frames := 1, cells := 0, slots := 0, locals := 23 } : Room) s m args below meth c H locs 0 0 Q (F0 m 95 ls [.int j95_s0]) by
    refine lv_if_eq (tgt := 94) X.1 X.2.1 dX2_changeAccumulator_87 (by decide) (fun c_87 => ?_) (fun c_87 => ?_)
    · refine lv_iconst (v := 1) X.1 X.2.1 dX2_changeAccumulator_94 (by decide) ?_
      exact K_95 1 _ _ _ (if_pos c_87).symm (lv_sub hl [0, 1] rfl) Z
    · refine lv_iconst (v := 2) X.1 X.2.1 dX2_changeAccumulator_90 (by decide) ?_
      refine lv_goto (tgt := 95) X.1 X.2.1 dX2_changeAccumulator_91 (by decide) ?_
      exact K_95 2 _ _ _ (if_neg c_87).symm (lv_sub hl [0, 1] rfl) Z
  intro j95_s0 ls H locs e_j95_s0 hl Z
  refine lv_istore_n (lv' := [(2, .int j95_s0), (0, .ref (q 0)), (1, .int a1)]) X.1 X.2.1 dX2_changeAccumulator_95 rfl hl (by decide) rfl (fun ls hl => ?_)
  refine lv_iload_n X.1 X.2.1 dX2_changeAccumulator_96 rfl (lv_at hl 2 rfl) ?_
  refine lv_iconst (v := 4) X.1 X.2.1 dX2_changeAccumulator_97 (by decide) ?_
  refine call_Si X hT Z k_X2_126 (c_X2_has l D cI (cw q cI j82_g mm) a1 4 ) hd_X2_has ⟨by decide, by decide⟩ ⟨rfl, rfl⟩ hl.1 (rest := []) rfl (Nat.le_of_ble_eq_true rfl) ⟨by decide, by decide⟩ dX2_changeAccumulator_98 (fun H locs Z => ?_)
  refine lv_istore_n (lv' := [(3, .int (rX2_has a1 4)), (2, .int j95_s0), (0, .ref (q 0)), (1, .int a1)]) X.1 X.2.1 dX2_changeAccumulator_101 rfl hl (by decide) rfl (fun ls hl => ?_)
  refine lv_iload_n X.1 X.2.1 dX2_changeAccumulator_102 rfl (lv_at hl 3 rfl) ?_
  refine lv_bipush (v := 8) X.1 X.2.1 dX2_changeAccumulator_103 (by decide) ?_
  refine call_Si X hT Z k_X2_126 (c_X2_has l D cI (cw q cI j82_g mm) a1 8 ) hd_X2_has ⟨by decide, by decide⟩ ⟨rfl, rfl⟩ hl.1 (rest := []) rfl (Nat.le_of_ble_eq_true rfl) ⟨by decide, by decide⟩ dX2_changeAccumulator_105 (fun H locs Z => ?_)
  refine lv_istore (lv' := [(4, .int (rX2_has a1 8)), (3, .int (rX2_has a1 4)), (2, .int j95_s0), (0, .ref (q 0)), (1, .int a1)]) X.1 X.2.1 dX2_changeAccumulator_108 hl (by decide) rfl (fun ls hl => ?_)
  refine lv_iload_n X.1 X.2.1 dX2_changeAccumulator_110 rfl (lv_at hl 1 rfl) ?_
  suffices K_144 : ∀ (j144_g : Nat → Int32) (ls : Array Slot) (H : Heap) (locs : List Loc), j144_g = uX2_changeAccumulator_j144_g mm a1 j82_g j95_s0 → lv_has ls 5 [(4, .int (rX2_has a1 8)), (3, .int (rX2_has a1 4)), (2, .int j95_s0), (0, .ref (q 0)), (1, .int a1)] → ZZ D cI (cw q cI j144_g mm) A s H locs → W p l e ({ frames := 1, cells := 0, slots := 0, locals := 23 } : Room) s m args below meth c H locs 0 0 Q (F0 m 144 ls []) by
    refine lv_if_eq (tgt := 127) X.1 X.2.1 dX2_changeAccumulator_111 (by decide) (fun c_111 => ?_) (fun c_111 => ?_)
    · refine lv_iload X.1 X.2.1 dX2_changeAccumulator_127 (lv_at hl 0 rfl) ?_
      refine lv_if_eq (tgt := 144) X.1 X.2.1 dX2_changeAccumulator_129 (by decide) (fun c_129 => ?_) (fun c_129 => ?_)
      · exact K_144 j82_g _ _ _ ((if_pos c_111).trans (if_pos c_129)).symm (lv_sub hl [0, 1, 2, 3, 4] rfl) Z
      · refine lv_iload_n X.1 X.2.1 dX2_changeAccumulator_132 rfl (lv_at hl 1 rfl) ?_
        refine lv_if_ne (tgt := 144) X.1 X.2.1 dX2_changeAccumulator_133 (by decide) (fun c_133 => ?_) (fun c_133 => ?_)
        · exact K_144 j82_g _ _ _ ((if_pos c_111).trans ((if_neg c_129).trans (if_neg c_133))).symm (lv_sub hl [0, 1, 2, 3, 4] rfl) Z
        · refine lv_aload_n X.1 X.2.1 dX2_changeAccumulator_136 rfl (lv_at hl 3 rfl) ?_
          refine lv_bipush (v := 13) X.1 X.2.1 dX2_changeAccumulator_137 (by decide) ?_
          refine lv_iload_n X.1 X.2.1 dX2_changeAccumulator_139 rfl (lv_at hl 2 rfl) ?_
          refine lv_isub X.1 X.2.1 dX2_changeAccumulator_140 ?_
          refine call_Vv X hT Z (qq := (RX2, TX2, 15)) k_X2_147 (c_X2_turnLeft l D cI q j82_g mm (13 - j95_s0) ) rfl rfl hd_X2_turnLeft ⟨by decide, by decide⟩ ⟨rfl, rfl⟩ hl.1 (rest := []) rfl (Nat.le_of_ble_eq_true rfl) ⟨by decide, by decide⟩ dX2_changeAccumulator_141 (fun H locs Z => ?_)
          exact K_144 (gX2_turnLeft j82_g mm (13 - j95_s0)) _ _ _ ((if_pos c_111).trans ((if_neg c_129).trans (if_pos c_133))).symm (lv_sub hl [0, 1, 2, 3, 4] rfl) Z
    · refine lv_iload X.1 X.2.1 dX2_changeAccumulator_114 (lv_at hl 0 rfl) ?_
      refine lv_if_ne (tgt := 127) X.1 X.2.1 dX2_changeAccumulator_116 (by decide) (fun c_116 => ?_) (fun c_116 => ?_)
      · refine lv_iload X.1 X.2.1 dX2_changeAccumulator_127 (lv_at hl 0 rfl) ?_
        refine lv_if_eq (tgt := 144) X.1 X.2.1 dX2_changeAccumulator_129 (by decide) (fun c_129 => ?_) (fun c_129 => ?_)
        · exact K_144 j82_g _ _ _ ((if_neg c_111).trans ((if_neg c_116).trans (if_pos c_129))).symm (lv_sub hl [0, 1, 2, 3, 4] rfl) Z
        · refine lv_iload_n X.1 X.2.1 dX2_changeAccumulator_132 rfl (lv_at hl 1 rfl) ?_
          refine lv_if_ne (tgt := 144) X.1 X.2.1 dX2_changeAccumulator_133 (by decide) (fun c_133 => ?_) (fun c_133 => ?_)
          · exact K_144 j82_g _ _ _ ((if_neg c_111).trans ((if_neg c_116).trans ((if_neg c_129).trans (if_neg c_133)))).symm (lv_sub hl [0, 1, 2, 3, 4] rfl) Z
          · refine lv_aload_n X.1 X.2.1 dX2_changeAccumulator_136 rfl (lv_at hl 3 rfl) ?_
            refine lv_bipush (v := 13) X.1 X.2.1 dX2_changeAccumulator_137 (by decide) ?_
            refine lv_iload_n X.1 X.2.1 dX2_changeAccumulator_139 rfl (lv_at hl 2 rfl) ?_
            refine lv_isub X.1 X.2.1 dX2_changeAccumulator_140 ?_
            refine call_Vv X hT Z (qq := (RX2, TX2, 15)) k_X2_147 (c_X2_turnLeft l D cI q j82_g mm (13 - j95_s0) ) rfl rfl hd_X2_turnLeft ⟨by decide, by decide⟩ ⟨rfl, rfl⟩ hl.1 (rest := []) rfl (Nat.le_of_ble_eq_true rfl) ⟨by decide, by decide⟩ dX2_changeAccumulator_141 (fun H locs Z => ?_)
            exact K_144 (gX2_turnLeft j82_g mm (13 - j95_s0)) _ _ _ ((if_neg c_111).trans ((if_neg c_116).trans ((if_neg c_129).trans (if_pos c_133)))).symm (lv_sub hl [0, 1, 2, 3, 4] rfl) Z
      · refine lv_aload_n X.1 X.2.1 dX2_changeAccumulator_119 rfl (lv_at hl 3 rfl) ?_
        refine lv_iload_n X.1 X.2.1 dX2_changeAccumulator_120 rfl (lv_at hl 2 rfl) ?_
        refine call_Vv X hT Z (qq := (RX2, TX2, 15)) k_X2_147 (c_X2_turnLeft l D cI q j82_g mm j95_s0 ) rfl rfl hd_X2_turnLeft ⟨by decide, by decide⟩ ⟨rfl, rfl⟩ hl.1 (rest := []) rfl (Nat.le_of_ble_eq_true rfl) ⟨by decide, by decide⟩ dX2_changeAccumulator_121 (fun H locs Z => ?_)
        refine lv_goto (tgt := 144) X.1 X.2.1 dX2_changeAccumulator_124 (by decide) ?_
        exact K_144 (gX2_turnLeft j82_g mm j95_s0) _ _ _ ((if_neg c_111).trans (if_pos c_116)).symm (lv_sub hl [0, 1, 2, 3, 4] rfl) Z
  intro j144_g ls H locs e_j144_g hl Z
  exact hret _ _ _ _ _ Z (cw_eq (by subst e_j15_g e_j29_g e_j50_g e_j69_g e_j82_g e_j95_s0 e_j144_g; exact rfl) rfl) dX2_changeAccumulator_144
def uX2_testAccumulator_j57_s0 (g : Nat → Int32) (a1 : Int32) : Int32 := if (rX2_has a1 64) = 0 then (if (rX2_has a1 32) = 0 then (if (rX2_has a1 16) = 0 then (0) else (if (g 1) = 1 then (1) else (0))) else (if (g 0) = 0 then (1) else (if (rX2_has a1 16) = 0 then (0) else (if (g 1) = 1 then (1) else (0))))) else (if (2048 : Int32) ≤ (g 0) then (1) else (if (rX2_has a1 32) = 0 then (if (rX2_has a1 16) = 0 then (0) else (if (g 1) = 1 then (1) else (0))) else (if (g 0) = 0 then (1) else (if (rX2_has a1 16) = 0 then (0) else (if (g 1) = 1 then (1) else (0))))))
def uX2_testAccumulator_j74_s0 (a1 : Int32) (j57_s0 : Int32) : Int32 := if j57_s0 = (rX2_has a1 8) then (0) else (1)
def uX2_testAccumulator_j92_g (g : Nat → Int32) (mm : Nat → Nat → Int32) (a1 : Int32) (j74_s0 : Int32) : Nat → Int32 := if (rX2_has a1 128) = 0 then ((gX2_skipIf g mm j74_s0)) else ((upd (gX2_skipIf g mm j74_s0) 0 0))
def uX2_testAccumulator_j113_g (a1 : Int32) (j92_g : Nat → Int32) : Nat → Int32 := if (rX2_has a1 4) = 0 then (j92_g) else ((upd j92_g 0 ((j92_g 0) ||| (j92_g 4))))
def uX2_testAccumulator_j126_g (a1 : Int32) (j113_g : Nat → Int32) : Nat → Int32 := if (rX2_has a1 2) = 0 then (j113_g) else ((upd j113_g 5 1))
def gX2_testAccumulator (g : Nat → Int32) (mm : Nat → Nat → Int32) (a1 : Int32) : Nat → Int32 := let j57_s0 : Int32 := uX2_testAccumulator_j57_s0 g a1; let j74_s0 : Int32 := uX2_testAccumulator_j74_s0 a1 j57_s0; let j92_g : Nat → Int32 := uX2_testAccumulator_j92_g g mm a1 j74_s0; let j113_g : Nat → Int32 := uX2_testAccumulator_j113_g a1 j92_g; let j126_g : Nat → Int32 := uX2_testAccumulator_j126_g a1 j113_g; j126_g
set_option maxRecDepth 20000 in
set_option maxHeartbeats 4000000 in
theorem c_X2_testAccumulator (l : Launch) (D : va_G) (cI : ClassId) (q : Nat → Nat) (g : Nat → Int32) (mm : Nat → Nat → Int32) (a1 : Int32)  : MI l D cI yX2_testAccumulator (.code yX2_testAccumulator cX2_testAccumulator 3 none) ({ frames := 2, cells := 0, slots := 0, locals := 41 } : Room) [.ref (q 0), .int a1] (cw q cI g mm) (cw q cI (gX2_testAccumulator g mm a1) mm) none := by
  refine MI.ofV (own := RX2) (by decide) rfl (Nat.le_of_ble_eq_true rfl) ?_
  intro p e s m args below meth c A ls Q X Z hl hret
  have hT : ∀ w ∈ TB, w ∈ (Cond.code yX2_testAccumulator cX2_testAccumulator 3 none :: TB) := fun _ h => List.mem_cons_of_mem _ h
  have hl : lv_has ls 3 [(0, .ref (q 0)), (1, .int a1)] := hl
  refine lv_iload_n X.1 X.2.1 dX2_testAccumulator_0 rfl (lv_at hl 1 rfl) ?_
  refine lv_bipush (v := 64) X.1 X.2.1 dX2_testAccumulator_1 (by decide) ?_
  refine call_Si X hT Z k_X2_126 (c_X2_has l D cI (cw q cI g mm) a1 64 ) hd_X2_has ⟨by decide, by decide⟩ ⟨rfl, rfl⟩ hl.1 (rest := []) rfl (Nat.le_of_ble_eq_true rfl) ⟨by decide, by decide⟩ dX2_testAccumulator_3 (fun H locs Z => ?_)
  suffices K_57 : ∀ (j57_s0 : Int32) (ls : Array Slot) (H : Heap) (locs : List Loc), j57_s0 = uX2_testAccumulator_j57_s0 g a1 → lv_has ls 3 [(0, .ref (q 0)), (1, .int a1)] → ZZ D cI (cw q cI g mm) A s H locs → W p l e ({ frames := 2, cells := 0, slots := 0, locals := 41 } : Room) s m args below meth c H locs 0 0 Q (F0 m 57 ls [.int j57_s0]) by
    refine lv_if_eq (tgt := 19) X.1 X.2.1 dX2_testAccumulator_6 (by decide) (fun c_6 => ?_) (fun c_6 => ?_)
    · refine lv_iload_n X.1 X.2.1 dX2_testAccumulator_19 rfl (lv_at hl 1 rfl) ?_
      refine lv_bipush (v := 32) X.1 X.2.1 dX2_testAccumulator_20 (by decide) ?_
      refine call_Si X hT Z k_X2_126 (c_X2_has l D cI (cw q cI g mm) a1 32 ) hd_X2_has ⟨by decide, by decide⟩ ⟨rfl, rfl⟩ hl.1 (rest := []) rfl (Nat.le_of_ble_eq_true rfl) ⟨by decide, by decide⟩ dX2_testAccumulator_22 (fun H locs Z => ?_)
      refine lv_if_eq (tgt := 35) X.1 X.2.1 dX2_testAccumulator_25 (by decide) (fun c_25 => ?_) (fun c_25 => ?_)
      · refine lv_iload_n X.1 X.2.1 dX2_testAccumulator_35 rfl (lv_at hl 1 rfl) ?_
        refine lv_bipush (v := 16) X.1 X.2.1 dX2_testAccumulator_36 (by decide) ?_
        refine call_Si X hT Z k_X2_126 (c_X2_has l D cI (cw q cI g mm) a1 16 ) hd_X2_has ⟨by decide, by decide⟩ ⟨rfl, rfl⟩ hl.1 (rest := []) rfl (Nat.le_of_ble_eq_true rfl) ⟨by decide, by decide⟩ dX2_testAccumulator_38 (fun H locs Z => ?_)
        refine lv_if_eq (tgt := 56) X.1 X.2.1 dX2_testAccumulator_41 (by decide) (fun c_41 => ?_) (fun c_41 => ?_)
        · refine lv_iconst (v := 0) X.1 X.2.1 dX2_testAccumulator_56 (by decide) ?_
          exact K_57 0 _ _ _ ((if_pos c_6).trans ((if_pos c_25).trans (if_pos c_41))).symm (lv_sub hl [0, 1] rfl) Z
        · refine lv_aload_n X.1 X.2.1 dX2_testAccumulator_44 rfl (lv_at hl 0 rfl) ?_
          refine G_X2_link X hT Z dX2_testAccumulator_45 ?_
          refine lv_iconst (v := 1) X.1 X.2.1 dX2_testAccumulator_48 (by decide) ?_
          refine lv_icmp_ne (tgt := 56) X.1 X.2.1 dX2_testAccumulator_49 (by decide) (fun c_49 => ?_) (fun c_49 => ?_)
          · refine lv_iconst (v := 0) X.1 X.2.1 dX2_testAccumulator_56 (by decide) ?_
            exact K_57 0 _ _ _ ((if_pos c_6).trans ((if_pos c_25).trans ((if_neg c_41).trans (if_neg c_49)))).symm (lv_sub hl [0, 1] rfl) Z
          · refine lv_iconst (v := 1) X.1 X.2.1 dX2_testAccumulator_52 (by decide) ?_
            refine lv_goto (tgt := 57) X.1 X.2.1 dX2_testAccumulator_53 (by decide) ?_
            exact K_57 1 _ _ _ ((if_pos c_6).trans ((if_pos c_25).trans ((if_neg c_41).trans (if_pos c_49)))).symm (lv_sub hl [0, 1] rfl) Z
      · refine lv_aload_n X.1 X.2.1 dX2_testAccumulator_28 rfl (lv_at hl 0 rfl) ?_
        refine G_X2_ac X hT Z dX2_testAccumulator_29 ?_
        refine lv_if_eq (tgt := 52) X.1 X.2.1 dX2_testAccumulator_32 (by decide) (fun c_32 => ?_) (fun c_32 => ?_)
        · refine lv_iconst (v := 1) X.1 X.2.1 dX2_testAccumulator_52 (by decide) ?_
          refine lv_goto (tgt := 57) X.1 X.2.1 dX2_testAccumulator_53 (by decide) ?_
          exact K_57 1 _ _ _ ((if_pos c_6).trans ((if_neg c_25).trans (if_pos c_32))).symm (lv_sub hl [0, 1] rfl) Z
        · refine lv_iload_n X.1 X.2.1 dX2_testAccumulator_35 rfl (lv_at hl 1 rfl) ?_
          refine lv_bipush (v := 16) X.1 X.2.1 dX2_testAccumulator_36 (by decide) ?_
          refine call_Si X hT Z k_X2_126 (c_X2_has l D cI (cw q cI g mm) a1 16 ) hd_X2_has ⟨by decide, by decide⟩ ⟨rfl, rfl⟩ hl.1 (rest := []) rfl (Nat.le_of_ble_eq_true rfl) ⟨by decide, by decide⟩ dX2_testAccumulator_38 (fun H locs Z => ?_)
          refine lv_if_eq (tgt := 56) X.1 X.2.1 dX2_testAccumulator_41 (by decide) (fun c_41 => ?_) (fun c_41 => ?_)
          · refine lv_iconst (v := 0) X.1 X.2.1 dX2_testAccumulator_56 (by decide) ?_
            exact K_57 0 _ _ _ ((if_pos c_6).trans ((if_neg c_25).trans ((if_neg c_32).trans (if_pos c_41)))).symm (lv_sub hl [0, 1] rfl) Z
          · refine lv_aload_n X.1 X.2.1 dX2_testAccumulator_44 rfl (lv_at hl 0 rfl) ?_
            refine G_X2_link X hT Z dX2_testAccumulator_45 ?_
            refine lv_iconst (v := 1) X.1 X.2.1 dX2_testAccumulator_48 (by decide) ?_
            refine lv_icmp_ne (tgt := 56) X.1 X.2.1 dX2_testAccumulator_49 (by decide) (fun c_49 => ?_) (fun c_49 => ?_)
            · refine lv_iconst (v := 0) X.1 X.2.1 dX2_testAccumulator_56 (by decide) ?_
              exact K_57 0 _ _ _ ((if_pos c_6).trans ((if_neg c_25).trans ((if_neg c_32).trans ((if_neg c_41).trans (if_neg c_49))))).symm (lv_sub hl [0, 1] rfl) Z
            · refine lv_iconst (v := 1) X.1 X.2.1 dX2_testAccumulator_52 (by decide) ?_
              refine lv_goto (tgt := 57) X.1 X.2.1 dX2_testAccumulator_53 (by decide) ?_
              exact K_57 1 _ _ _ ((if_pos c_6).trans ((if_neg c_25).trans ((if_neg c_32).trans ((if_neg c_41).trans (if_pos c_49))))).symm (lv_sub hl [0, 1] rfl) Z
    · refine lv_aload_n X.1 X.2.1 dX2_testAccumulator_9 rfl (lv_at hl 0 rfl) ?_
      refine G_X2_ac X hT Z dX2_testAccumulator_10 ?_
      refine lv_sipush (v := 2048) X.1 X.2.1 dX2_testAccumulator_13 (by decide) ?_
      refine lv_icmp_ge (tgt := 52) X.1 X.2.1 dX2_testAccumulator_16 (by decide) (fun c_16 => ?_) (fun c_16 => ?_)
      · refine lv_iconst (v := 1) X.1 X.2.1 dX2_testAccumulator_52 (by decide) ?_
        refine lv_goto (tgt := 57) X.1 X.2.1 dX2_testAccumulator_53 (by decide) ?_
        exact K_57 1 _ _ _ ((if_neg c_6).trans (if_pos c_16)).symm (lv_sub hl [0, 1] rfl) Z
      · refine lv_iload_n X.1 X.2.1 dX2_testAccumulator_19 rfl (lv_at hl 1 rfl) ?_
        refine lv_bipush (v := 32) X.1 X.2.1 dX2_testAccumulator_20 (by decide) ?_
        refine call_Si X hT Z k_X2_126 (c_X2_has l D cI (cw q cI g mm) a1 32 ) hd_X2_has ⟨by decide, by decide⟩ ⟨rfl, rfl⟩ hl.1 (rest := []) rfl (Nat.le_of_ble_eq_true rfl) ⟨by decide, by decide⟩ dX2_testAccumulator_22 (fun H locs Z => ?_)
        refine lv_if_eq (tgt := 35) X.1 X.2.1 dX2_testAccumulator_25 (by decide) (fun c_25 => ?_) (fun c_25 => ?_)
        · refine lv_iload_n X.1 X.2.1 dX2_testAccumulator_35 rfl (lv_at hl 1 rfl) ?_
          refine lv_bipush (v := 16) X.1 X.2.1 dX2_testAccumulator_36 (by decide) ?_
          refine call_Si X hT Z k_X2_126 (c_X2_has l D cI (cw q cI g mm) a1 16 ) hd_X2_has ⟨by decide, by decide⟩ ⟨rfl, rfl⟩ hl.1 (rest := []) rfl (Nat.le_of_ble_eq_true rfl) ⟨by decide, by decide⟩ dX2_testAccumulator_38 (fun H locs Z => ?_)
          refine lv_if_eq (tgt := 56) X.1 X.2.1 dX2_testAccumulator_41 (by decide) (fun c_41 => ?_) (fun c_41 => ?_)
          · refine lv_iconst (v := 0) X.1 X.2.1 dX2_testAccumulator_56 (by decide) ?_
            exact K_57 0 _ _ _ ((if_neg c_6).trans ((if_neg c_16).trans ((if_pos c_25).trans (if_pos c_41)))).symm (lv_sub hl [0, 1] rfl) Z
          · refine lv_aload_n X.1 X.2.1 dX2_testAccumulator_44 rfl (lv_at hl 0 rfl) ?_
            refine G_X2_link X hT Z dX2_testAccumulator_45 ?_
            refine lv_iconst (v := 1) X.1 X.2.1 dX2_testAccumulator_48 (by decide) ?_
            refine lv_icmp_ne (tgt := 56) X.1 X.2.1 dX2_testAccumulator_49 (by decide) (fun c_49 => ?_) (fun c_49 => ?_)
            · refine lv_iconst (v := 0) X.1 X.2.1 dX2_testAccumulator_56 (by decide) ?_
              exact K_57 0 _ _ _ ((if_neg c_6).trans ((if_neg c_16).trans ((if_pos c_25).trans ((if_neg c_41).trans (if_neg c_49))))).symm (lv_sub hl [0, 1] rfl) Z
            · refine lv_iconst (v := 1) X.1 X.2.1 dX2_testAccumulator_52 (by decide) ?_
              refine lv_goto (tgt := 57) X.1 X.2.1 dX2_testAccumulator_53 (by decide) ?_
              exact K_57 1 _ _ _ ((if_neg c_6).trans ((if_neg c_16).trans ((if_pos c_25).trans ((if_neg c_41).trans (if_pos c_49))))).symm (lv_sub hl [0, 1] rfl) Z
        · refine lv_aload_n X.1 X.2.1 dX2_testAccumulator_28 rfl (lv_at hl 0 rfl) ?_
          refine G_X2_ac X hT Z dX2_testAccumulator_29 ?_
          refine lv_if_eq (tgt := 52) X.1 X.2.1 dX2_testAccumulator_32 (by decide) (fun c_32 => ?_) (fun c_32 => ?_)
          · refine lv_iconst (v := 1) X.1 X.2.1 dX2_testAccumulator_52 (by decide) ?_
            refine lv_goto (tgt := 57) X.1 X.2.1 dX2_testAccumulator_53 (by decide) ?_
            exact K_57 1 _ _ _ ((if_neg c_6).trans ((if_neg c_16).trans ((if_neg c_25).trans (if_pos c_32)))).symm (lv_sub hl [0, 1] rfl) Z
          · refine lv_iload_n X.1 X.2.1 dX2_testAccumulator_35 rfl (lv_at hl 1 rfl) ?_
            refine lv_bipush (v := 16) X.1 X.2.1 dX2_testAccumulator_36 (by decide) ?_
            refine call_Si X hT Z k_X2_126 (c_X2_has l D cI (cw q cI g mm) a1 16 ) hd_X2_has ⟨by decide, by decide⟩ ⟨rfl, rfl⟩ hl.1 (rest := []) rfl (Nat.le_of_ble_eq_true rfl) ⟨by decide, by decide⟩ dX2_testAccumulator_38 (fun H locs Z => ?_)
            refine lv_if_eq (tgt := 56) X.1 X.2.1 dX2_testAccumulator_41 (by decide) (fun c_41 => ?_) (fun c_41 => ?_)
            · refine lv_iconst (v := 0) X.1 X.2.1 dX2_testAccumulator_56 (by decide) ?_
              exact K_57 0 _ _ _ ((if_neg c_6).trans ((if_neg c_16).trans ((if_neg c_25).trans ((if_neg c_32).trans (if_pos c_41))))).symm (lv_sub hl [0, 1] rfl) Z
            · refine lv_aload_n X.1 X.2.1 dX2_testAccumulator_44 rfl (lv_at hl 0 rfl) ?_
              refine G_X2_link X hT Z dX2_testAccumulator_45 ?_
              refine lv_iconst (v := 1) X.1 X.2.1 dX2_testAccumulator_48 (by decide) ?_
              refine lv_icmp_ne (tgt := 56) X.1 X.2.1 dX2_testAccumulator_49 (by decide) (fun c_49 => ?_) (fun c_49 => ?_)
              · refine lv_iconst (v := 0) X.1 X.2.1 dX2_testAccumulator_56 (by decide) ?_
                exact K_57 0 _ _ _ ((if_neg c_6).trans ((if_neg c_16).trans ((if_neg c_25).trans ((if_neg c_32).trans ((if_neg c_41).trans (if_neg c_49)))))).symm (lv_sub hl [0, 1] rfl) Z
              · refine lv_iconst (v := 1) X.1 X.2.1 dX2_testAccumulator_52 (by decide) ?_
                refine lv_goto (tgt := 57) X.1 X.2.1 dX2_testAccumulator_53 (by decide) ?_
                exact K_57 1 _ _ _ ((if_neg c_6).trans ((if_neg c_16).trans ((if_neg c_25).trans ((if_neg c_32).trans ((if_neg c_41).trans (if_pos c_49)))))).symm (lv_sub hl [0, 1] rfl) Z
  intro j57_s0 ls H locs e_j57_s0 hl Z
  refine lv_istore_n (lv' := [(2, .int j57_s0), (0, .ref (q 0)), (1, .int a1)]) X.1 X.2.1 dX2_testAccumulator_57 rfl hl (by decide) rfl (fun ls hl => ?_)
  refine lv_aload_n X.1 X.2.1 dX2_testAccumulator_58 rfl (lv_at hl 1 rfl) ?_
  refine lv_iload_n X.1 X.2.1 dX2_testAccumulator_59 rfl (lv_at hl 0 rfl) ?_
  refine lv_iload_n X.1 X.2.1 dX2_testAccumulator_60 rfl (lv_at hl 2 rfl) ?_
  refine lv_bipush (v := 8) X.1 X.2.1 dX2_testAccumulator_61 (by decide) ?_
  refine call_Si X hT Z k_X2_126 (c_X2_has l D cI (cw q cI g mm) a1 8 ) hd_X2_has ⟨by decide, by decide⟩ ⟨rfl, rfl⟩ hl.1 (rest := [.int j57_s0, .ref (q 0)]) rfl (Nat.le_of_ble_eq_true rfl) ⟨by decide, by decide⟩ dX2_testAccumulator_63 (fun H locs Z => ?_)
  suffices K_74 : ∀ (j74_s0 : Int32) (ls : Array Slot) (H : Heap) (locs : List Loc), j74_s0 = uX2_testAccumulator_j74_s0 a1 j57_s0 → lv_has ls 3 [(2, .int j57_s0), (0, .ref (q 0)), (1, .int a1)] → ZZ D cI (cw q cI g mm) A s H locs → W p l e ({ frames := 2, cells := 0, slots := 0, locals := 41 } : Room) s m args below meth c H locs 0 0 Q (F0 m 74 ls [.int j74_s0, .ref (q 0)]) by
    refine lv_icmp_eq (tgt := 73) X.1 X.2.1 dX2_testAccumulator_66 (by decide) (fun c_66 => ?_) (fun c_66 => ?_)
    · refine lv_iconst (v := 0) X.1 X.2.1 dX2_testAccumulator_73 (by decide) ?_
      exact K_74 0 _ _ _ (if_pos c_66).symm (lv_sub hl [0, 1, 2] rfl) Z
    · refine lv_iconst (v := 1) X.1 X.2.1 dX2_testAccumulator_69 (by decide) ?_
      refine lv_goto (tgt := 74) X.1 X.2.1 dX2_testAccumulator_70 (by decide) ?_
      exact K_74 1 _ _ _ (if_neg c_66).symm (lv_sub hl [0, 1, 2] rfl) Z
  intro j74_s0 ls H locs e_j74_s0 hl Z
  refine call_Vv X hT Z (qq := (RX2, TX2, 15)) k_X2_140 (c_X2_skipIf l D cI q g mm j74_s0 ) rfl rfl hd_X2_skipIf ⟨by decide, by decide⟩ ⟨rfl, rfl⟩ hl.1 (rest := []) rfl (Nat.le_of_ble_eq_true rfl) ⟨by decide, by decide⟩ dX2_testAccumulator_74 (fun H locs Z => ?_)
  refine lv_iload_n X.1 X.2.1 dX2_testAccumulator_77 rfl (lv_at hl 2 rfl) ?_
  refine lv_sipush (v := 128) X.1 X.2.1 dX2_testAccumulator_78 (by decide) ?_
  refine call_Si X hT Z k_X2_126 (c_X2_has l D cI (cw q cI (gX2_skipIf g mm j74_s0) mm) a1 128 ) hd_X2_has ⟨by decide, by decide⟩ ⟨rfl, rfl⟩ hl.1 (rest := []) rfl (Nat.le_of_ble_eq_true rfl) ⟨by decide, by decide⟩ dX2_testAccumulator_81 (fun H locs Z => ?_)
  suffices K_92 : ∀ (j92_g : Nat → Int32) (ls : Array Slot) (H : Heap) (locs : List Loc), j92_g = uX2_testAccumulator_j92_g g mm a1 j74_s0 → lv_has ls 3 [(2, .int j57_s0), (0, .ref (q 0)), (1, .int a1)] → ZZ D cI (cw q cI j92_g mm) A s H locs → W p l e ({ frames := 2, cells := 0, slots := 0, locals := 41 } : Room) s m args below meth c H locs 0 0 Q (F0 m 92 ls []) by
    refine lv_if_eq (tgt := 92) X.1 X.2.1 dX2_testAccumulator_84 (by decide) (fun c_84 => ?_) (fun c_84 => ?_)
    · exact K_92 (gX2_skipIf g mm j74_s0) _ _ _ (if_pos c_84).symm (lv_sub hl [0, 1, 2] rfl) Z
    · refine lv_aload_n X.1 X.2.1 dX2_testAccumulator_87 rfl (lv_at hl 1 rfl) ?_
      refine lv_iconst (v := 0) X.1 X.2.1 dX2_testAccumulator_88 (by decide) ?_
      refine P_X2_ac X hT Z dX2_testAccumulator_89 (fun H locs Z => ?_)
      exact K_92 (upd (gX2_skipIf g mm j74_s0) 0 0) _ _ _ (if_neg c_84).symm (lv_sub hl [0, 1, 2] rfl) Z
  intro j92_g ls H locs e_j92_g hl Z
  refine lv_iload_n X.1 X.2.1 dX2_testAccumulator_92 rfl (lv_at hl 2 rfl) ?_
  refine lv_iconst (v := 4) X.1 X.2.1 dX2_testAccumulator_93 (by decide) ?_
  refine call_Si X hT Z k_X2_126 (c_X2_has l D cI (cw q cI j92_g mm) a1 4 ) hd_X2_has ⟨by decide, by decide⟩ ⟨rfl, rfl⟩ hl.1 (rest := []) rfl (Nat.le_of_ble_eq_true rfl) ⟨by decide, by decide⟩ dX2_testAccumulator_94 (fun H locs Z => ?_)
  suffices K_113 : ∀ (j113_g : Nat → Int32) (ls : Array Slot) (H : Heap) (locs : List Loc), j113_g = uX2_testAccumulator_j113_g a1 j92_g → lv_has ls 3 [(2, .int j57_s0), (0, .ref (q 0)), (1, .int a1)] → ZZ D cI (cw q cI j113_g mm) A s H locs → W p l e ({ frames := 2, cells := 0, slots := 0, locals := 41 } : Room) s m args below meth c H locs 0 0 Q (F0 m 113 ls []) by
    refine lv_if_eq (tgt := 113) X.1 X.2.1 dX2_testAccumulator_97 (by decide) (fun c_97 => ?_) (fun c_97 => ?_)
    · exact K_113 j92_g _ _ _ (if_pos c_97).symm (lv_sub hl [0, 1, 2] rfl) Z
    · refine lv_aload_n X.1 X.2.1 dX2_testAccumulator_100 rfl (lv_at hl 1 rfl) ?_
      refine lv_dup X.1 X.2.1 dX2_testAccumulator_101 rfl ?_
      refine G_X2_ac X hT Z dX2_testAccumulator_102 ?_
      refine lv_aload_n X.1 X.2.1 dX2_testAccumulator_105 rfl (lv_at hl 1 rfl) ?_
      refine G_X2_sr X hT Z dX2_testAccumulator_106 ?_
      refine lv_ior X.1 X.2.1 dX2_testAccumulator_109 ?_
      refine P_X2_ac X hT Z dX2_testAccumulator_110 (fun H locs Z => ?_)
      exact K_113 (upd j92_g 0 ((j92_g 0) ||| (j92_g 4))) _ _ _ (if_neg c_97).symm (lv_sub hl [0, 1, 2] rfl) Z
  intro j113_g ls H locs e_j113_g hl Z
  refine lv_iload_n X.1 X.2.1 dX2_testAccumulator_113 rfl (lv_at hl 2 rfl) ?_
  refine lv_iconst (v := 2) X.1 X.2.1 dX2_testAccumulator_114 (by decide) ?_
  refine call_Si X hT Z k_X2_126 (c_X2_has l D cI (cw q cI j113_g mm) a1 2 ) hd_X2_has ⟨by decide, by decide⟩ ⟨rfl, rfl⟩ hl.1 (rest := []) rfl (Nat.le_of_ble_eq_true rfl) ⟨by decide, by decide⟩ dX2_testAccumulator_115 (fun H locs Z => ?_)
  suffices K_126 : ∀ (j126_g : Nat → Int32) (ls : Array Slot) (H : Heap) (locs : List Loc), j126_g = uX2_testAccumulator_j126_g a1 j113_g → lv_has ls 3 [(2, .int j57_s0), (0, .ref (q 0)), (1, .int a1)] → ZZ D cI (cw q cI j126_g mm) A s H locs → W p l e ({ frames := 2, cells := 0, slots := 0, locals := 41 } : Room) s m args below meth c H locs 0 0 Q (F0 m 126 ls []) by
    refine lv_if_eq (tgt := 126) X.1 X.2.1 dX2_testAccumulator_118 (by decide) (fun c_118 => ?_) (fun c_118 => ?_)
    · exact K_126 j113_g _ _ _ (if_pos c_118).symm (lv_sub hl [0, 1, 2] rfl) Z
    · refine lv_aload_n X.1 X.2.1 dX2_testAccumulator_121 rfl (lv_at hl 1 rfl) ?_
      refine lv_iconst (v := 1) X.1 X.2.1 dX2_testAccumulator_122 (by decide) ?_
      refine P_X2_halted X hT Z ⟨rfl, rfl⟩ dX2_testAccumulator_123 (fun H locs Z => ?_)
      exact K_126 (upd j113_g 5 1) _ _ _ (if_neg c_118).symm (lv_sub hl [0, 1, 2] rfl) Z
  intro j126_g ls H locs e_j126_g hl Z
  exact hret _ _ _ _ _ Z (cw_eq (by subst e_j57_s0 e_j74_s0 e_j92_g e_j113_g e_j126_g; exact rfl) rfl) dX2_testAccumulator_126
def uX2_exchangeWithMq_j15_g (g : Nat → Int32) (a1 : Int32) : Nat → Int32 := if (rX2_has a1 128) = 0 then (g) else ((upd g 0 0))
def uX2_exchangeWithMq_j52_g (a1 : Int32) (j15_g : Nat → Int32) : Nat → Int32 := if (rX2_has a1 16) = 0 then (j15_g) else ((upd (upd j15_g 3 (j15_g 0)) 0 0))
def uX2_exchangeWithMq_j67_g (a1 : Int32) (j15_g : Nat → Int32) (j52_g : Nat → Int32) : Nat → Int32 := if (rX2_has a1 64) = 0 then (j52_g) else ((upd j52_g 0 ((j52_g 0) ||| (j15_g 3))))
def gX2_exchangeWithMq (g : Nat → Int32) (mm : Nat → Nat → Int32) (a1 : Int32) : Nat → Int32 := let j15_g : Nat → Int32 := uX2_exchangeWithMq_j15_g g a1; let j52_g : Nat → Int32 := uX2_exchangeWithMq_j52_g a1 j15_g; let j67_g : Nat → Int32 := uX2_exchangeWithMq_j67_g a1 j15_g j52_g; j67_g
set_option maxRecDepth 20000 in
set_option maxHeartbeats 4000000 in
theorem c_X2_exchangeWithMq (l : Launch) (D : va_G) (cI : ClassId) (q : Nat → Nat) (g : Nat → Int32) (mm : Nat → Nat → Int32) (a1 : Int32)  : MI l D cI yX2_exchangeWithMq (.code yX2_exchangeWithMq cX2_exchangeWithMq 5 none) ({ frames := 1, cells := 0, slots := 0, locals := 21 } : Room) [.ref (q 0), .int a1] (cw q cI g mm) (cw q cI (gX2_exchangeWithMq g mm a1) mm) none := by
  refine MI.ofV (own := RX2) (by decide) rfl (Nat.le_of_ble_eq_true rfl) ?_
  intro p e s m args below meth c A ls Q X Z hl hret
  have hT : ∀ w ∈ TB, w ∈ (Cond.code yX2_exchangeWithMq cX2_exchangeWithMq 5 none :: TB) := fun _ h => List.mem_cons_of_mem _ h
  have hl : lv_has ls 5 [(0, .ref (q 0)), (1, .int a1)] := hl
  refine lv_iload_n X.1 X.2.1 dX2_exchangeWithMq_0 rfl (lv_at hl 1 rfl) ?_
  refine lv_sipush (v := 128) X.1 X.2.1 dX2_exchangeWithMq_1 (by decide) ?_
  refine call_Si X hT Z k_X2_126 (c_X2_has l D cI (cw q cI g mm) a1 128 ) hd_X2_has ⟨by decide, by decide⟩ ⟨rfl, rfl⟩ hl.1 (rest := []) rfl (Nat.le_of_ble_eq_true rfl) ⟨by decide, by decide⟩ dX2_exchangeWithMq_4 (fun H locs Z => ?_)
  suffices K_15 : ∀ (j15_g : Nat → Int32) (ls : Array Slot) (H : Heap) (locs : List Loc), j15_g = uX2_exchangeWithMq_j15_g g a1 → lv_has ls 5 [(0, .ref (q 0)), (1, .int a1)] → ZZ D cI (cw q cI j15_g mm) A s H locs → W p l e ({ frames := 1, cells := 0, slots := 0, locals := 21 } : Room) s m args below meth c H locs 0 0 Q (F0 m 15 ls []) by
    refine lv_if_eq (tgt := 15) X.1 X.2.1 dX2_exchangeWithMq_7 (by decide) (fun c_7 => ?_) (fun c_7 => ?_)
    · exact K_15 g _ _ _ (if_pos c_7).symm (lv_sub hl [0, 1] rfl) Z
    · refine lv_aload_n X.1 X.2.1 dX2_exchangeWithMq_10 rfl (lv_at hl 0 rfl) ?_
      refine lv_iconst (v := 0) X.1 X.2.1 dX2_exchangeWithMq_11 (by decide) ?_
      refine P_X2_ac X hT Z dX2_exchangeWithMq_12 (fun H locs Z => ?_)
      exact K_15 (upd g 0 0) _ _ _ (if_neg c_7).symm (lv_sub hl [0, 1] rfl) Z
  intro j15_g ls H locs e_j15_g hl Z
  refine lv_iload_n X.1 X.2.1 dX2_exchangeWithMq_15 rfl (lv_at hl 1 rfl) ?_
  refine lv_bipush (v := 64) X.1 X.2.1 dX2_exchangeWithMq_16 (by decide) ?_
  refine call_Si X hT Z k_X2_126 (c_X2_has l D cI (cw q cI j15_g mm) a1 64 ) hd_X2_has ⟨by decide, by decide⟩ ⟨rfl, rfl⟩ hl.1 (rest := []) rfl (Nat.le_of_ble_eq_true rfl) ⟨by decide, by decide⟩ dX2_exchangeWithMq_18 (fun H locs Z => ?_)
  refine lv_istore_n (lv' := [(2, .int (rX2_has a1 64)), (0, .ref (q 0)), (1, .int a1)]) X.1 X.2.1 dX2_exchangeWithMq_21 rfl hl (by decide) rfl (fun ls hl => ?_)
  refine lv_iload_n X.1 X.2.1 dX2_exchangeWithMq_22 rfl (lv_at hl 2 rfl) ?_
  refine lv_bipush (v := 16) X.1 X.2.1 dX2_exchangeWithMq_23 (by decide) ?_
  refine call_Si X hT Z k_X2_126 (c_X2_has l D cI (cw q cI j15_g mm) a1 16 ) hd_X2_has ⟨by decide, by decide⟩ ⟨rfl, rfl⟩ hl.1 (rest := []) rfl (Nat.le_of_ble_eq_true rfl) ⟨by decide, by decide⟩ dX2_exchangeWithMq_25 (fun H locs Z => ?_)
  refine lv_istore_n (lv' := [(3, .int (rX2_has a1 16)), (2, .int (rX2_has a1 64)), (0, .ref (q 0)), (1, .int a1)]) X.1 X.2.1 dX2_exchangeWithMq_28 rfl hl (by decide) rfl (fun ls hl => ?_)
  refine lv_aload_n X.1 X.2.1 dX2_exchangeWithMq_29 rfl (lv_at hl 2 rfl) ?_
  refine G_X2_mq X hT Z dX2_exchangeWithMq_30 ?_
  refine lv_istore (lv' := [(4, .int (j15_g 3)), (3, .int (rX2_has a1 16)), (2, .int (rX2_has a1 64)), (0, .ref (q 0)), (1, .int a1)]) X.1 X.2.1 dX2_exchangeWithMq_33 hl (by decide) rfl (fun ls hl => ?_)
  refine lv_iload_n X.1 X.2.1 dX2_exchangeWithMq_35 rfl (lv_at hl 1 rfl) ?_
  suffices K_52 : ∀ (j52_g : Nat → Int32) (ls : Array Slot) (H : Heap) (locs : List Loc), j52_g = uX2_exchangeWithMq_j52_g a1 j15_g → lv_has ls 5 [(4, .int (j15_g 3)), (3, .int (rX2_has a1 16)), (2, .int (rX2_has a1 64)), (0, .ref (q 0)), (1, .int a1)] → ZZ D cI (cw q cI j52_g mm) A s H locs → W p l e ({ frames := 1, cells := 0, slots := 0, locals := 21 } : Room) s m args below meth c H locs 0 0 Q (F0 m 52 ls []) by
    refine lv_if_eq (tgt := 52) X.1 X.2.1 dX2_exchangeWithMq_36 (by decide) (fun c_36 => ?_) (fun c_36 => ?_)
    · exact K_52 j15_g _ _ _ (if_pos c_36).symm (lv_sub hl [0, 1, 2, 3, 4] rfl) Z
    · refine lv_aload_n X.1 X.2.1 dX2_exchangeWithMq_39 rfl (lv_at hl 3 rfl) ?_
      refine lv_aload_n X.1 X.2.1 dX2_exchangeWithMq_40 rfl (lv_at hl 3 rfl) ?_
      refine G_X2_ac X hT Z dX2_exchangeWithMq_41 ?_
      refine P_X2_mq X hT Z dX2_exchangeWithMq_44 (fun H locs Z => ?_)
      refine lv_aload_n X.1 X.2.1 dX2_exchangeWithMq_47 rfl (lv_at hl 3 rfl) ?_
      refine lv_iconst (v := 0) X.1 X.2.1 dX2_exchangeWithMq_48 (by decide) ?_
      refine P_X2_ac X hT Z dX2_exchangeWithMq_49 (fun H locs Z => ?_)
      exact K_52 (upd (upd j15_g 3 (j15_g 0)) 0 0) _ _ _ (if_neg c_36).symm (lv_sub hl [0, 1, 2, 3, 4] rfl) Z
  intro j52_g ls H locs e_j52_g hl Z
  refine lv_iload_n X.1 X.2.1 dX2_exchangeWithMq_52 rfl (lv_at hl 2 rfl) ?_
  suffices K_67 : ∀ (j67_g : Nat → Int32) (ls : Array Slot) (H : Heap) (locs : List Loc), j67_g = uX2_exchangeWithMq_j67_g a1 j15_g j52_g → lv_has ls 5 [(4, .int (j15_g 3)), (3, .int (rX2_has a1 16)), (2, .int (rX2_has a1 64)), (0, .ref (q 0)), (1, .int a1)] → ZZ D cI (cw q cI j67_g mm) A s H locs → W p l e ({ frames := 1, cells := 0, slots := 0, locals := 21 } : Room) s m args below meth c H locs 0 0 Q (F0 m 67 ls []) by
    refine lv_if_eq (tgt := 67) X.1 X.2.1 dX2_exchangeWithMq_53 (by decide) (fun c_53 => ?_) (fun c_53 => ?_)
    · exact K_67 j52_g _ _ _ (if_pos c_53).symm (lv_sub hl [0, 1, 2, 3, 4] rfl) Z
    · refine lv_aload_n X.1 X.2.1 dX2_exchangeWithMq_56 rfl (lv_at hl 3 rfl) ?_
      refine lv_dup X.1 X.2.1 dX2_exchangeWithMq_57 rfl ?_
      refine G_X2_ac X hT Z dX2_exchangeWithMq_58 ?_
      refine lv_iload X.1 X.2.1 dX2_exchangeWithMq_61 (lv_at hl 0 rfl) ?_
      refine lv_ior X.1 X.2.1 dX2_exchangeWithMq_63 ?_
      refine P_X2_ac X hT Z dX2_exchangeWithMq_64 (fun H locs Z => ?_)
      exact K_67 (upd j52_g 0 ((j52_g 0) ||| (j15_g 3))) _ _ _ (if_neg c_53).symm (lv_sub hl [0, 1, 2, 3, 4] rfl) Z
  intro j67_g ls H locs e_j67_g hl Z
  exact hret _ _ _ _ _ Z (cw_eq (by subst e_j15_g e_j52_g e_j67_g; exact rfl) rfl) dX2_exchangeWithMq_67
def uX2_perform_j78_g (g : Nat → Int32) (mm : Nat → Nat → Int32) (a1 : Int32) (a2 : Int32) : Nat → Int32 := if (6 : Int32) ≤ (a1 >>> ((9 : Int32) &&& 31)) then (if (a1 >>> ((9 : Int32) &&& 31)) = 6 then ((gX2_performDevice g mm a1)) else (if (rX2_has a1 256) = 0 then ((gX2_changeAccumulator g mm a1)) else (if (rX2_has a1 1) = 0 then ((gX2_testAccumulator g mm a1)) else ((gX2_exchangeWithMq g mm a1))))) else ((gX2_performAddressed g (mX2_effectiveAddress g mm a1 a2) (a1 >>> ((9 : Int32) &&& 31)) (rX2_effectiveAddress g mm a1 a2)))
def uX2_perform_j78_mm (g : Nat → Int32) (mm : Nat → Nat → Int32) (a1 : Int32) (a2 : Int32) : Nat → Nat → Int32 := if (6 : Int32) ≤ (a1 >>> ((9 : Int32) &&& 31)) then (if (a1 >>> ((9 : Int32) &&& 31)) = 6 then ((mX2_performDevice g mm a1)) else (mm)) else ((mX2_performAddressed g (mX2_effectiveAddress g mm a1 a2) (a1 >>> ((9 : Int32) &&& 31)) (rX2_effectiveAddress g mm a1 a2)))
def gX2_perform (g : Nat → Int32) (mm : Nat → Nat → Int32) (a1 : Int32) (a2 : Int32) : Nat → Int32 := let j78_g : Nat → Int32 := uX2_perform_j78_g g mm a1 a2; j78_g
def mX2_perform (g : Nat → Int32) (mm : Nat → Nat → Int32) (a1 : Int32) (a2 : Int32) : Nat → Nat → Int32 := let j78_mm : Nat → Nat → Int32 := uX2_perform_j78_mm g mm a1 a2; j78_mm
set_option maxRecDepth 20000 in
set_option maxHeartbeats 4000000 in
theorem c_X2_perform (l : Launch) (D : va_G) (cI : ClassId) (q : Nat → Nat) (g : Nat → Int32) (mm : Nat → Nat → Int32) (a1 : Int32) (a2 : Int32) (hq : Cq g) : MI l D cI yX2_perform (.code yX2_perform cX2_perform 4 none) ({ frames := 3, cells := 0, slots := 0, locals := 63 } : Room) [.ref (q 0), .int a1, .int a2] (cw q cI g mm) (cw q cI (gX2_perform g mm a1 a2) (mX2_perform g mm a1 a2)) none := by
  refine MI.ofV (own := RX2) (by decide) rfl (Nat.le_of_ble_eq_true rfl) ?_
  intro p e s m args below meth c A ls Q X Z hl hret
  have hT : ∀ w ∈ TB, w ∈ (Cond.code yX2_perform cX2_perform 4 none :: TB) := fun _ h => List.mem_cons_of_mem _ h
  have hl : lv_has ls 4 [(0, .ref (q 0)), (1, .int a1), (2, .int a2)] := hl
  refine lv_iload_n X.1 X.2.1 dX2_perform_0 rfl (lv_at hl 1 rfl) ?_
  refine lv_bipush (v := 9) X.1 X.2.1 dX2_perform_1 (by decide) ?_
  refine lv_ishr X.1 X.2.1 dX2_perform_3 ?_
  refine lv_istore_n (lv' := [(3, .int (a1 >>> ((9 : Int32) &&& 31))), (0, .ref (q 0)), (1, .int a1), (2, .int a2)]) X.1 X.2.1 dX2_perform_4 rfl hl (by decide) rfl (fun ls hl => ?_)
  refine lv_iload_n X.1 X.2.1 dX2_perform_5 rfl (lv_at hl 0 rfl) ?_
  refine lv_bipush (v := 6) X.1 X.2.1 dX2_perform_6 (by decide) ?_
  suffices K_78 : ∀ (j78_g : Nat → Int32) (j78_mm : Nat → Nat → Int32) (ls : Array Slot) (H : Heap) (locs : List Loc), j78_g = uX2_perform_j78_g g mm a1 a2 → j78_mm = uX2_perform_j78_mm g mm a1 a2 → lv_has ls 4 [(3, .int (a1 >>> ((9 : Int32) &&& 31))), (0, .ref (q 0)), (1, .int a1), (2, .int a2)] → ZZ D cI (cw q cI j78_g j78_mm) A s H locs → W p l e ({ frames := 3, cells := 0, slots := 0, locals := 63 } : Room) s m args below meth c H locs 0 0 Q (F0 m 78 ls []) by
    refine lv_icmp_ge (tgt := 25) X.1 X.2.1 dX2_perform_8 (by decide) (fun c_8 => ?_) (fun c_8 => ?_)
    · refine lv_iload_n X.1 X.2.1 dX2_perform_25 rfl (lv_at hl 0 rfl) ?_
      refine lv_bipush (v := 6) X.1 X.2.1 dX2_perform_26 (by decide) ?_
      refine lv_icmp_ne (tgt := 39) X.1 X.2.1 dX2_perform_28 (by decide) (fun c_28 => ?_) (fun c_28 => ?_)
      · refine lv_iload_n X.1 X.2.1 dX2_perform_39 rfl (lv_at hl 2 rfl) ?_
        refine lv_sipush (v := 256) X.1 X.2.1 dX2_perform_40 (by decide) ?_
        refine call_Si X hT Z k_X2_126 (c_X2_has l D cI (cw q cI g mm) a1 256 ) hd_X2_has ⟨by decide, by decide⟩ ⟨rfl, rfl⟩ hl.1 (rest := []) rfl (Nat.le_of_ble_eq_true rfl) ⟨by decide, by decide⟩ dX2_perform_43 (fun H locs Z => ?_)
        refine lv_if_ne (tgt := 57) X.1 X.2.1 dX2_perform_46 (by decide) (fun c_46 => ?_) (fun c_46 => ?_)
        · refine lv_iload_n X.1 X.2.1 dX2_perform_57 rfl (lv_at hl 2 rfl) ?_
          refine lv_iconst (v := 1) X.1 X.2.1 dX2_perform_58 (by decide) ?_
          refine call_Si X hT Z k_X2_126 (c_X2_has l D cI (cw q cI g mm) a1 1 ) hd_X2_has ⟨by decide, by decide⟩ ⟨rfl, rfl⟩ hl.1 (rest := []) rfl (Nat.le_of_ble_eq_true rfl) ⟨by decide, by decide⟩ dX2_perform_59 (fun H locs Z => ?_)
          refine lv_if_ne (tgt := 73) X.1 X.2.1 dX2_perform_62 (by decide) (fun c_62 => ?_) (fun c_62 => ?_)
          · refine lv_aload_n X.1 X.2.1 dX2_perform_73 rfl (lv_at hl 1 rfl) ?_
            refine lv_iload_n X.1 X.2.1 dX2_perform_74 rfl (lv_at hl 2 rfl) ?_
            refine call_Vv X hT Z (qq := (RX2, TX2, 15)) k_X2_136 (c_X2_exchangeWithMq l D cI q g mm a1 ) rfl rfl hd_X2_exchangeWithMq ⟨by decide, by decide⟩ ⟨rfl, rfl⟩ hl.1 (rest := []) rfl (Nat.le_of_ble_eq_true rfl) ⟨by decide, by decide⟩ dX2_perform_75 (fun H locs Z => ?_)
            exact K_78 (gX2_exchangeWithMq g mm a1) mm _ _ _ ((if_pos c_8).trans ((if_neg c_28).trans ((if_neg c_46).trans (if_neg c_62)))).symm ((if_pos c_8).trans (if_neg c_28)).symm (lv_sub hl [0, 1, 2, 3] rfl) Z
          · refine lv_aload_n X.1 X.2.1 dX2_perform_65 rfl (lv_at hl 1 rfl) ?_
            refine lv_iload_n X.1 X.2.1 dX2_perform_66 rfl (lv_at hl 2 rfl) ?_
            refine call_Vv X hT Z (qq := (RX2, TX2, 15)) k_X2_133 (c_X2_testAccumulator l D cI q g mm a1 ) rfl rfl hd_X2_testAccumulator ⟨by decide, by decide⟩ ⟨rfl, rfl⟩ hl.1 (rest := []) rfl (Nat.le_of_ble_eq_true rfl) ⟨by decide, by decide⟩ dX2_perform_67 (fun H locs Z => ?_)
            refine lv_goto (tgt := 78) X.1 X.2.1 dX2_perform_70 (by decide) ?_
            exact K_78 (gX2_testAccumulator g mm a1) mm _ _ _ ((if_pos c_8).trans ((if_neg c_28).trans ((if_neg c_46).trans (if_pos c_62)))).symm ((if_pos c_8).trans (if_neg c_28)).symm (lv_sub hl [0, 1, 2, 3] rfl) Z
        · refine lv_aload_n X.1 X.2.1 dX2_perform_49 rfl (lv_at hl 1 rfl) ?_
          refine lv_iload_n X.1 X.2.1 dX2_perform_50 rfl (lv_at hl 2 rfl) ?_
          refine call_Vv X hT Z (qq := (RX2, TX2, 15)) k_X2_130 (c_X2_changeAccumulator l D cI q g mm a1 ) rfl rfl hd_X2_changeAccumulator ⟨by decide, by decide⟩ ⟨rfl, rfl⟩ hl.1 (rest := []) rfl (Nat.le_of_ble_eq_true rfl) ⟨by decide, by decide⟩ dX2_perform_51 (fun H locs Z => ?_)
          refine lv_goto (tgt := 78) X.1 X.2.1 dX2_perform_54 (by decide) ?_
          exact K_78 (gX2_changeAccumulator g mm a1) mm _ _ _ ((if_pos c_8).trans ((if_neg c_28).trans (if_pos c_46))).symm ((if_pos c_8).trans (if_neg c_28)).symm (lv_sub hl [0, 1, 2, 3] rfl) Z
      · refine lv_aload_n X.1 X.2.1 dX2_perform_31 rfl (lv_at hl 1 rfl) ?_
        refine lv_iload_n X.1 X.2.1 dX2_perform_32 rfl (lv_at hl 2 rfl) ?_
        refine call_Vv X hT Z (qq := (RX2, TX2, 15)) k_X2_123 (c_X2_performDevice l D cI q g mm a1 hq) rfl rfl hd_X2_performDevice ⟨by decide, by decide⟩ ⟨rfl, rfl⟩ hl.1 (rest := []) rfl (Nat.le_of_ble_eq_true rfl) ⟨by decide, by decide⟩ dX2_perform_33 (fun H locs Z => ?_)
        refine lv_goto (tgt := 78) X.1 X.2.1 dX2_perform_36 (by decide) ?_
        exact K_78 (gX2_performDevice g mm a1) (mX2_performDevice g mm a1) _ _ _ ((if_pos c_8).trans (if_pos c_28)).symm ((if_pos c_8).trans (if_pos c_28)).symm (lv_sub hl [0, 1, 2, 3] rfl) Z
    · refine lv_aload_n X.1 X.2.1 dX2_perform_11 rfl (lv_at hl 1 rfl) ?_
      refine lv_iload_n X.1 X.2.1 dX2_perform_12 rfl (lv_at hl 0 rfl) ?_
      refine lv_aload_n X.1 X.2.1 dX2_perform_13 rfl (lv_at hl 1 rfl) ?_
      refine lv_iload_n X.1 X.2.1 dX2_perform_14 rfl (lv_at hl 2 rfl) ?_
      refine lv_iload_n X.1 X.2.1 dX2_perform_15 rfl (lv_at hl 3 rfl) ?_
      refine call_Vi X hT Z (qq := (RX2, TX2, 15)) k_X2_116 (c_X2_effectiveAddress l D cI q g mm a1 a2 ) rfl rfl hd_X2_effectiveAddress ⟨by decide, by decide⟩ ⟨rfl, rfl⟩ hl.1 (rest := [.int (a1 >>> ((9 : Int32) &&& 31)), .ref (q 0)]) rfl (Nat.le_of_ble_eq_true rfl) ⟨by decide, by decide⟩ dX2_perform_16 (fun H locs Z => ?_)
      refine call_Vv X hT Z (qq := (RX2, TX2, 15)) k_X2_120 (c_X2_performAddressed l D cI q g (mX2_effectiveAddress g mm a1 a2) (a1 >>> ((9 : Int32) &&& 31)) (rX2_effectiveAddress g mm a1 a2) ) rfl rfl hd_X2_performAddressed ⟨by decide, by decide⟩ ⟨rfl, rfl⟩ hl.1 (rest := []) rfl (Nat.le_of_ble_eq_true rfl) ⟨by decide, by decide⟩ dX2_perform_19 (fun H locs Z => ?_)
      refine lv_goto (tgt := 78) X.1 X.2.1 dX2_perform_22 (by decide) ?_
      exact K_78 (gX2_performAddressed g (mX2_effectiveAddress g mm a1 a2) (a1 >>> ((9 : Int32) &&& 31)) (rX2_effectiveAddress g mm a1 a2)) (mX2_performAddressed g (mX2_effectiveAddress g mm a1 a2) (a1 >>> ((9 : Int32) &&& 31)) (rX2_effectiveAddress g mm a1 a2)) _ _ _ (if_neg c_8).symm (if_neg c_8).symm (lv_sub hl [0, 1, 2, 3] rfl) Z
  intro j78_g j78_mm ls H locs e_j78_g e_j78_mm hl Z
  exact hret _ _ _ _ _ Z (cw_eq (by subst e_j78_g e_j78_mm; exact rfl) (by subst e_j78_g e_j78_mm; exact rfl)) dX2_perform_78

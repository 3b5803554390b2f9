set_option maxHeartbeats 4000000 in
theorem bX9_goes {l : Launch} {G : xG} {h : List va_E} {sp fa nb ns nm nv sh : Nat} {ho ow sl : Int32} {th ot dy kn go : Nat → Nat} {so ln : Nat → Nat} {lt : Nat → Int32} {t d k : Nat} (h88 : h[88]? = some (oB 9 (lM G (nI sp) (nI fa) (nI nb) (nI ns) (nI nm) ho ow sl (nI nv) (nI sh)))) (h108 : h[108]? = some (aI 60 (nA th))) (h109 : h[109]? = some (aI 60 (nA ot))) (h110 : h[110]? = some (aI 60 (nA dy))) (h111 : h[111]? = some (aI 60 (nA so))) (h112 : h[112]? = some (aI 60 (nA kn))) (h113 : h[113]? = some (aI 60 (nA (gM go)))) (h114 : h[114]? = some (aI 60 (nA ln))) (h115 : h[115]? = some (aI 60 lt)) (bth : ∀ j, j < 60 → th j < 12) (bkn : ∀ j, j < 60 → kn j ≤ 80000) (bgo : ∀ j, j < 60 → go j ≤ 80001) (bdy : ∀ j, j < 60 → dy j ≤ 80000) (hln : ∀ j, j < 60 → ln j < 60) (hn : nm ≤ 60) (bso : ∀ j, j < 60 → so j < 5) (bt : t < 12) (bd : d ≤ 80000) (bk : k ≤ 80000) : CE l G yX9_goes cX9_goes 9 none 1 0 0 [.ref (G.1 + 88), .int (nI t), .int (nI d), .int (nI k)] h none (fun h1 => ∃ ho1 : Int32, ∃ ow1 : Int32, ∃ sl1 : Int32, ∃ ln1 : Nat → Nat, ∃ lt1 : Nat → Int32, h1[88]? = some (oB 9 (lM G (nI sp) (nI fa) (nI nb) (nI ns) (nI nm) ho1 ow1 sl1 (nI nv) (nI sh))) ∧ h1[114]? = some (aI 60 (nA ln1)) ∧ h1[115]? = some (aI 60 lt1) ∧ rg2 88 88 114 115 h h1 ∧ (∀ j, j < 60 → ln1 j < 60) ∧ (ho1 = (gVS th ot dy so kn go t d k nm).2.1 ∧ ow1 = (gVS th ot dy so kn go t d k nm).2.2.1 ∧ sl1 = (gVS th ot dy so kn go t d k nm).2.2.2)) := by
  refine cm_ofQ rfl (Nat.le_of_ble_eq_true rfl) [(0, .ref (G.1 + 88)), (1, .int (nI t)), (2, .int (nI d)), (3, .int (nI k))] rfl (fun QF hQF => ?_)
  refine aw_iconst (0) dX9_goes_0 (by decide) ?_
  refine aw_istore [(4, .int 0), (0, .ref (G.1 + 88)), (1, .int (nI t)), (2, .int (nI d)), (3, .int (nI k))] dX9_goes_1 (by decide) rfl ?_
  refine aw_iconst (0) dX9_goes_3 (by decide) ?_
  refine aw_istore [(5, .int 0), (4, .int 0), (0, .ref (G.1 + 88)), (1, .int (nI t)), (2, .int (nI d)), (3, .int (nI k))] dX9_goes_4 (by decide) rfl ?_
  refine aw_lv [(5, .int 0), (4, .int 0), (3, .int (nI k)), (2, .int (nI d)), (1, .int (nI t)), (0, .ref (G.1 + 88))] [0, 1, 5, 4, 3, 2] rfl ?_
  suffices L2806 : ∀ (mm : Nat) (i : Nat) (c : Nat) (ln1 : Nat → Nat) (h2795 : List va_E), nm - i < mm → (i ≤ nm) → (c ≤ i) → (∀ j, j < 60 → ln1 j < 60) → (LN th dy kn go t d k i c ln1) → h2795[88]? = some (oB 9 (lM G (nI sp) (nI fa) (nI nb) (nI ns) (nI nm) ho ow sl (nI nv) (nI sh))) → h2795[108]? = some (aI 60 (nA th)) → h2795[109]? = some (aI 60 (nA ot)) → h2795[110]? = some (aI 60 (nA dy)) → h2795[111]? = some (aI 60 (nA so)) → h2795[112]? = some (aI 60 (nA kn)) → h2795[113]? = some (aI 60 (nA (gM go))) → h2795[114]? = some (aI 60 (nA ln1)) → h2795[115]? = some (aI 60 lt) → rg2 88 88 114 115 h h2795 → AW l G yX9_goes cX9_goes 9 none (xR 1 0 0) (fun _ _ => True) QF 0 0 6 [(5, .int (nI i)), (4, .int (nI c)), (3, .int (nI k)), (2, .int (nI d)), (1, .int (nI t)), (0, .ref (G.1 + 88))] [] h2795 from L2806 (nm - 0 + 1) 0 0 ln _ (Nat.lt_succ_self _) (Nat.zero_le _) (Nat.zero_le _) (hln) (LN_0) h88 h108 h109 h110 h111 h112 h113 h114 h115 (rg2_rf 88 88 114 115 h)
  intro mm
  induction mm with
  | zero =>
    intro i c ln1 h2795 hmm hi hc hl1 hL f2796 f2797 f2798 f2799 f2800 f2801 f2802 f2803 f2804 k2805
    exact absurd hmm (Nat.not_lt_zero _)
  | succ mm ih2806 =>
    intro i c ln1 h2795 hmm hi hc hl1 hL f2796 f2797 f2798 f2799 f2800 f2801 f2802 f2803 f2804 k2805
    refine aw_iload 0 dX9_goes_6 rfl ?_
    refine aw_aload_n 5 dX9_goes_8 rfl rfl ?_
    refine aw_get fX9_202 dX9_goes_9 f2796 rfl ?_
    refine aw_icmp_ge 113 dX9_goes_12 (by decide) (fun c12 => ?_) (fun c12 => ?_)
    · have d12 := (nv_le (a := nm) (b := i) (rfl) (rfl) (by omega) (by omega)).mp c12
      refine aw_aload_n 5 dX9_goes_113 rfl rfl ?_
      refine aw_bipush (-9) dX9_goes_114 (by decide) ?_
      refine aw_putQ fX9_211 dX9_goes_116 (lM G (nI sp) (nI fa) (nI nb) (nI ns) (nI nm) (-9) ow sl (nI nv) (nI sh)) f2796 rfl rfl rfl (Nat.le_of_ble_eq_true rfl) rfl ?_
      refine aw_aload_n 5 dX9_goes_119 rfl rfl ?_
      refine aw_bipush (-9) dX9_goes_120 (by decide) ?_
      refine aw_putQ fX9_214 dX9_goes_122 (lM G (nI sp) (nI fa) (nI nb) (nI ns) (nI nm) (-9) (-9) sl (nI nv) (nI sh)) (gs f2796) rfl rfl rfl (Nat.le_of_ble_eq_true rfl) rfl ?_
      refine aw_aload_n 5 dX9_goes_125 rfl rfl ?_
      refine aw_iconst (0) dX9_goes_126 (by decide) ?_
      refine aw_putQ fX9_217 dX9_goes_127 (lM G (nI sp) (nI fa) (nI nb) (nI ns) (nI nm) (-9) (-9) 0 (nI nv) (nI sh)) (gs (gs f2796)) rfl rfl rfl (Nat.le_of_ble_eq_true rfl) rfl ?_
      refine aw_iconst (0) dX9_goes_130 (by decide) ?_
      refine aw_istore [(5, .int 0), (4, .int (nI c)), (3, .int (nI k)), (2, .int (nI d)), (1, .int (nI t)), (0, .ref (G.1 + 88))] dX9_goes_131 (by decide) rfl ?_
      refine aw_iconst (0) dX9_goes_133 (by decide) ?_
      refine aw_istore [(6, .int 0), (5, .int 0), (4, .int (nI c)), (3, .int (nI k)), (2, .int (nI d)), (1, .int (nI t)), (0, .ref (G.1 + 88))] dX9_goes_134 (by decide) rfl ?_
      refine aw_lv [(6, .int 0), (5, .int 0), (4, .int (nI c)), (3, .int (nI k)), (2, .int (nI d)), (1, .int (nI t)), (0, .ref (G.1 + 88))] [0, 1, 2, 3, 4, 5, 6] rfl ?_
      suffices L2818 : ∀ (mm : Nat) (z : Nat) (o : Nat) (ho1 : Int32) (ow1 : Int32) (sl1 : Int32) (lt1 : Nat → Int32) (h2807 : List va_E), c - z < mm → (z ≤ c) → (o ≤ z) → (st5 (fdI so ot ln1 z) o ho1 ow1 sl1 lt1) → h2807[88]? = some (oB 9 (lM G (nI sp) (nI fa) (nI nb) (nI ns) (nI nm) ho1 ow1 sl1 (nI nv) (nI sh))) → h2807[108]? = some (aI 60 (nA th)) → h2807[109]? = some (aI 60 (nA ot)) → h2807[110]? = some (aI 60 (nA dy)) → h2807[111]? = some (aI 60 (nA so)) → h2807[112]? = some (aI 60 (nA kn)) → h2807[113]? = some (aI 60 (nA (gM go))) → h2807[114]? = some (aI 60 (nA ln1)) → h2807[115]? = some (aI 60 lt1) → rg2 88 88 114 115 h h2807 → AW l G yX9_goes cX9_goes 9 none (xR 1 0 0) (fun _ _ => True) QF 0 0 136 [(6, .int (nI z)), (5, .int (nI o)), (4, .int (nI c)), (3, .int (nI k)), (2, .int (nI d)), (1, .int (nI t)), (0, .ref (G.1 + 88))] [] h2807 from L2818 (c - 0 + 1) 0 0 (-9) (-9) 0 lt _ (Nat.lt_succ_self _) (Nat.zero_le _) (Nat.le_refl _) (s5_0) (gs (gs (gs f2796))) (gn (by decide) (gn (by decide) (gn (by decide) (f2797)))) (gn (by decide) (gn (by decide) (gn (by decide) (f2798)))) (gn (by decide) (gn (by decide) (gn (by decide) (f2799)))) (gn (by decide) (gn (by decide) (gn (by decide) (f2800)))) (gn (by decide) (gn (by decide) (gn (by decide) (f2801)))) (gn (by decide) (gn (by decide) (gn (by decide) (f2802)))) (gn (by decide) (gn (by decide) (gn (by decide) (f2803)))) (gn (by decide) (gn (by decide) (gn (by decide) (f2804)))) (rg2_set (rg2_set (rg2_set (k2805) (by decide)) (by decide)) (by decide))
      intro mm
      induction mm with
      | zero =>
        intro z o ho1 ow1 sl1 lt1 h2807 hmm hz ho_ h5 f2808 f2809 f2810 f2811 f2812 f2813 f2814 f2815 f2816 k2817
        exact absurd hmm (Nat.not_lt_zero _)
      | succ mm ih2818 =>
        intro z o ho1 ow1 sl1 lt1 h2807 hmm hz ho_ h5 f2808 f2809 f2810 f2811 f2812 f2813 f2814 f2815 f2816 k2817
        refine aw_iload 0 dX9_goes_136 rfl ?_
        refine aw_iload 2 dX9_goes_138 rfl ?_
        refine aw_icmp_ge 278 dX9_goes_140 (by decide) (fun c140 => ?_) (fun c140 => ?_)
        · have d140 := (nv_le (a := c) (b := z) (rfl) (rfl) (by omega) (by omega)).mp c140
          subst hQF
          exact aw_vret rfl dX9_goes_278 (by decide) (by decide) ⟨rfl, _, _, _, _, _, f2808, f2815, f2816, k2817, hl1, gs_5 hL (by omega) h5 (by omega)⟩
        · have d140 := mt (nv_le (a := c) (b := z) (rfl) (rfl) (by omega) (by omega)).mpr c140
          refine aw_aload_n 6 dX9_goes_143 rfl rfl ?_
          refine aw_get fX9_83 dX9_goes_144 f2808 rfl ?_
          refine aw_aload_n 6 dX9_goes_147 rfl rfl ?_
          refine aw_get fX9_92 dX9_goes_148 f2808 rfl ?_
          refine aw_iload 0 dX9_goes_151 rfl ?_
          refine aw_iald z (rfl) (by omega) (by decide) dX9_goes_153 f2815 ?_
          refine aw_toe (nI (ln1 z)) (rfl) ?_
          have b2819 := hl1 z (by omega)
          refine aw_iald (ln1 z) (rfl) (by omega) (by decide) dX9_goes_154 f2812 ?_
          refine aw_toe (nI (so (ln1 z))) (rfl) ?_
          have b2820 := bso (ln1 z) (by omega)
          refine aw_istore [(7, .int (nI (so (ln1 z)))), (6, .int (nI z)), (5, .int (nI o)), (4, .int (nI c)), (3, .int (nI k)), (2, .int (nI d)), (1, .int (nI t)), (0, .ref (G.1 + 88))] dX9_goes_155 (by decide) rfl ?_
          refine aw_aload_n 7 dX9_goes_157 rfl rfl ?_
          refine aw_get fX9_77 dX9_goes_158 f2808 rfl ?_
          refine aw_aload_n 7 dX9_goes_161 rfl rfl ?_
          refine aw_get fX9_92 dX9_goes_162 f2808 rfl ?_
          refine aw_iload 1 dX9_goes_165 rfl ?_
          refine aw_iald z (rfl) (by omega) (by decide) dX9_goes_167 f2815 ?_
          refine aw_toe (nI (ln1 z)) (rfl) ?_
          have b2821 := hl1 z (by omega)
          refine aw_iald (ln1 z) (rfl) (by omega) (by decide) dX9_goes_168 f2810 ?_
          refine aw_toe (nI (ot (ln1 z))) (rfl) ?_
          refine aw_istore [(8, .int (nI (ot (ln1 z)))), (7, .int (nI (so (ln1 z)))), (6, .int (nI z)), (5, .int (nI o)), (4, .int (nI c)), (3, .int (nI k)), (2, .int (nI d)), (1, .int (nI t)), (0, .ref (G.1 + 88))] dX9_goes_169 (by decide) rfl ?_
          refine aw_iload 1 dX9_goes_171 rfl ?_
          refine aw_iconst (3) dX9_goes_173 (by decide) ?_
          refine aw_icmp_ne 200 dX9_goes_174 (by decide) (fun c174 => ?_) (fun c174 => ?_)
          · have d174 := mt (nv_eq (a := so (ln1 z)) (b := 3) (rfl) (rfl) (by omega) (by omega)).mpr c174
            refine aw_iload 1 dX9_goes_200 rfl ?_
            refine aw_iconst (4) dX9_goes_202 (by decide) ?_
            refine aw_icmp_ne 231 dX9_goes_203 (by decide) (fun c203 => ?_) (fun c203 => ?_)
            · have d203 := mt (nv_eq (a := so (ln1 z)) (b := 4) (rfl) (rfl) (by omega) (by omega)).mpr c203
              refine aw_aload_n 8 dX9_goes_231 rfl rfl ?_
              refine aw_iload 0 dX9_goes_232 rfl ?_
              refine aw_putQ fX9_211 dX9_goes_234 (lM G (nI sp) (nI fa) (nI nb) (nI ns) (nI nm) (nI (ot (ln1 z))) ow1 sl1 (nI nv) (nI sh)) f2808 rfl rfl rfl (Nat.le_of_ble_eq_true rfl) rfl ?_
              refine aw_iconst (0) dX9_goes_237 (by decide) ?_
              refine aw_istore [(5, .int 0), (8, .int (nI (ot (ln1 z)))), (7, .int (nI (so (ln1 z)))), (6, .int (nI z)), (4, .int (nI c)), (3, .int (nI k)), (2, .int (nI d)), (1, .int (nI t)), (0, .ref (G.1 + 88))] dX9_goes_238 (by decide) rfl ?_
              refine aw_aload_n 8 dX9_goes_240 rfl rfl ?_
              refine aw_iload 2 dX9_goes_241 rfl ?_
              refine aw_iconst (2) dX9_goes_243 (by decide) ?_
              refine aw_icmp_ne 252 dX9_goes_244 (by decide) (fun c244 => ?_) (fun c244 => ?_)
              · have d244 := mt (nv_eq (a := so (ln1 z)) (b := 2) (rfl) (rfl) (by omega) (by omega)).mpr c244
                refine aw_iload 1 dX9_goes_252 rfl ?_
                refine aw_putQ fX9_214 dX9_goes_254 (lM G (nI sp) (nI fa) (nI nb) (nI ns) (nI nm) (nI (ot (ln1 z))) (nI (ot (ln1 z))) sl1 (nI nv) (nI sh)) (gs f2808) rfl rfl rfl (Nat.le_of_ble_eq_true rfl) rfl ?_
                refine aw_aload_n 8 dX9_goes_257 rfl rfl ?_
                refine aw_iload 2 dX9_goes_258 rfl ?_
                refine aw_iconst (2) dX9_goes_260 (by decide) ?_
                refine aw_icmp_ne 268 dX9_goes_261 (by decide) (fun c261 => ?_) (fun c261 => absurd c261 (c244))
                refine aw_iconst (0) dX9_goes_268 (by decide) ?_
                refine aw_putQ fX9_217 dX9_goes_269 (lM G (nI sp) (nI fa) (nI nb) (nI ns) (nI nm) (nI (ot (ln1 z))) (nI (ot (ln1 z))) 0 (nI nv) (nI sh)) (gs (gs f2808)) rfl rfl rfl (Nat.le_of_ble_eq_true rfl) rfl ?_
                refine aw_iinc (j := 3) (nI (z + 1)) [(6, .int (nI (z + 1))), (5, .int 0), (8, .int (nI (ot (ln1 z)))), (7, .int (nI (so (ln1 z)))), (4, .int (nI c)), (3, .int (nI k)), (2, .int (nI d)), (1, .int (nI t)), (0, .ref (G.1 + 88))] dX9_goes_272 rfl (nv_inc (rfl)) (by decide) rfl ?_
                refine aw_goto 136 dX9_goes_275 (by decide) ?_
                refine aw_lv [(6, .int (nI (z + 1))), (5, .int 0), (4, .int (nI c)), (3, .int (nI k)), (2, .int (nI d)), (1, .int (nI t)), (0, .ref (G.1 + 88))] [0, 1, 4, 5, 6, 7, 8] rfl ?_
                exact ih2818 (z + 1) 0 (nI (ot (ln1 z))) (nI (ot (ln1 z))) 0 lt1 _ (by omega) (by omega) (by omega) (s5_1 h5 d174 d203 d244) (gs (gs (gs f2808))) (gn (by decide) (gn (by decide) (gn (by decide) (f2809)))) (gn (by decide) (gn (by decide) (gn (by decide) (f2810)))) (gn (by decide) (gn (by decide) (gn (by decide) (f2811)))) (gn (by decide) (gn (by decide) (gn (by decide) (f2812)))) (gn (by decide) (gn (by decide) (gn (by decide) (f2813)))) (gn (by decide) (gn (by decide) (gn (by decide) (f2814)))) (gn (by decide) (gn (by decide) (gn (by decide) (f2815)))) (gn (by decide) (gn (by decide) (gn (by decide) (f2816)))) (rg2_set (rg2_set (rg2_set (k2817) (by decide)) (by decide)) (by decide))
              · have d244 := (nv_eq (a := so (ln1 z)) (b := 2) (rfl) (rfl) (by omega) (by omega)).mp c244
                refine aw_bipush (-9) dX9_goes_247 (by decide) ?_
                refine aw_goto 254 dX9_goes_249 (by decide) ?_
                refine aw_putQ fX9_214 dX9_goes_254 (lM G (nI sp) (nI fa) (nI nb) (nI ns) (nI nm) (nI (ot (ln1 z))) (-9) sl1 (nI nv) (nI sh)) (gs f2808) rfl rfl rfl (Nat.le_of_ble_eq_true rfl) rfl ?_
                refine aw_aload_n 8 dX9_goes_257 rfl rfl ?_
                refine aw_iload 2 dX9_goes_258 rfl ?_
                refine aw_iconst (2) dX9_goes_260 (by decide) ?_
                refine aw_icmp_ne 268 dX9_goes_261 (by decide) (fun c261 => absurd (c244) c261) (fun c261 => ?_)
                refine aw_iconst (1) dX9_goes_264 (by decide) ?_
                refine aw_goto 269 dX9_goes_265 (by decide) ?_
                refine aw_putQ fX9_217 dX9_goes_269 (lM G (nI sp) (nI fa) (nI nb) (nI ns) (nI nm) (nI (ot (ln1 z))) (-9) 1 (nI nv) (nI sh)) (gs (gs f2808)) rfl rfl rfl (Nat.le_of_ble_eq_true rfl) rfl ?_
                refine aw_iinc (j := 3) (nI (z + 1)) [(6, .int (nI (z + 1))), (5, .int 0), (8, .int (nI (ot (ln1 z)))), (7, .int (nI (so (ln1 z)))), (4, .int (nI c)), (3, .int (nI k)), (2, .int (nI d)), (1, .int (nI t)), (0, .ref (G.1 + 88))] dX9_goes_272 rfl (nv_inc (rfl)) (by decide) rfl ?_
                refine aw_goto 136 dX9_goes_275 (by decide) ?_
                refine aw_lv [(6, .int (nI (z + 1))), (5, .int 0), (4, .int (nI c)), (3, .int (nI k)), (2, .int (nI d)), (1, .int (nI t)), (0, .ref (G.1 + 88))] [0, 1, 4, 5, 6, 7, 8] rfl ?_
                exact ih2818 (z + 1) 0 (nI (ot (ln1 z))) (-9) 1 lt1 _ (by omega) (by omega) (by omega) (s5_2 h5 d244) (gs (gs (gs f2808))) (gn (by decide) (gn (by decide) (gn (by decide) (f2809)))) (gn (by decide) (gn (by decide) (gn (by decide) (f2810)))) (gn (by decide) (gn (by decide) (gn (by decide) (f2811)))) (gn (by decide) (gn (by decide) (gn (by decide) (f2812)))) (gn (by decide) (gn (by decide) (gn (by decide) (f2813)))) (gn (by decide) (gn (by decide) (gn (by decide) (f2814)))) (gn (by decide) (gn (by decide) (gn (by decide) (f2815)))) (gn (by decide) (gn (by decide) (gn (by decide) (f2816)))) (rg2_set (rg2_set (rg2_set (k2817) (by decide)) (by decide)) (by decide))
            · have d203 := (nv_eq (a := so (ln1 z)) (b := 4) (rfl) (rfl) (by omega) (by omega)).mp c203
              refine aw_iload 3 dX9_goes_206 rfl ?_
              refine aw_if_ne 214 dX9_goes_208 (by decide) (fun c208 => ?_) (fun c208 => ?_)
              · have d208 := mt (nv_eq (a := o) (b := 0) (rfl) (rfl) (by omega) (by omega)).mpr c208
                refine aw_iinc (j := 3) (nI (o - 1)) [(5, .int (nI (o - 1))), (8, .int (nI (ot (ln1 z)))), (7, .int (nI (so (ln1 z)))), (6, .int (nI z)), (4, .int (nI c)), (3, .int (nI k)), (2, .int (nI d)), (1, .int (nI t)), (0, .ref (G.1 + 88))] dX9_goes_214 rfl (nv_dm (rfl) (by omega)) (by decide) rfl ?_
                refine aw_aload_n 8 dX9_goes_217 rfl rfl ?_
                refine aw_aload_n 8 dX9_goes_218 rfl rfl ?_
                refine aw_get fX9_95 dX9_goes_219 f2808 rfl ?_
                refine aw_iload 0 dX9_goes_222 rfl ?_
                refine aw_iald (o - 1) (rfl) (by omega) (by decide) dX9_goes_224 f2816 ?_
                refine aw_putQ fX9_211 dX9_goes_225 (lM G (nI sp) (nI fa) (nI nb) (nI ns) (nI nm) (lt1 (o - 1)) ow1 sl1 (nI nv) (nI sh)) f2808 rfl rfl rfl (Nat.le_of_ble_eq_true rfl) rfl ?_
                refine aw_goto 272 dX9_goes_228 (by decide) ?_
                refine aw_iinc (j := 3) (nI (z + 1)) [(6, .int (nI (z + 1))), (5, .int (nI (o - 1))), (8, .int (nI (ot (ln1 z)))), (7, .int (nI (so (ln1 z)))), (4, .int (nI c)), (3, .int (nI k)), (2, .int (nI d)), (1, .int (nI t)), (0, .ref (G.1 + 88))] dX9_goes_272 rfl (nv_inc (rfl)) (by decide) rfl ?_
                refine aw_goto 136 dX9_goes_275 (by decide) ?_
                refine aw_lv [(6, .int (nI (z + 1))), (5, .int (nI (o - 1))), (4, .int (nI c)), (3, .int (nI k)), (2, .int (nI d)), (1, .int (nI t)), (0, .ref (G.1 + 88))] [0, 1, 4, 5, 6, 7, 8] rfl ?_
                exact ih2818 (z + 1) (o - 1) (lt1 (o - 1)) ow1 sl1 lt1 _ (by omega) (by omega) (by omega) (s5_4 h5 d203 (by omega)) (gs f2808) (gn (by decide) (f2809)) (gn (by decide) (f2810)) (gn (by decide) (f2811)) (gn (by decide) (f2812)) (gn (by decide) (f2813)) (gn (by decide) (f2814)) (gn (by decide) (f2815)) (gn (by decide) (f2816)) (rg2_set (k2817) (by decide))
              · have d208 := (nv_eq (a := o) (b := 0) (rfl) (rfl) (by omega) (by omega)).mp c208
                refine aw_goto 272 dX9_goes_211 (by decide) ?_
                refine aw_iinc (j := 2) (nI (z + 1)) [(6, .int (nI (z + 1))), (8, .int (nI (ot (ln1 z)))), (7, .int (nI (so (ln1 z)))), (5, .int (nI o)), (4, .int (nI c)), (3, .int (nI k)), (2, .int (nI d)), (1, .int (nI t)), (0, .ref (G.1 + 88))] dX9_goes_272 rfl (nv_inc (rfl)) (by decide) rfl ?_
                refine aw_goto 136 dX9_goes_275 (by decide) ?_
                refine aw_lv [(6, .int (nI (z + 1))), (5, .int (nI o)), (4, .int (nI c)), (3, .int (nI k)), (2, .int (nI d)), (1, .int (nI t)), (0, .ref (G.1 + 88))] [0, 3, 4, 5, 6, 7, 8] rfl ?_
                exact ih2818 (z + 1) o ho1 ow1 sl1 lt1 _ (by omega) (by omega) (by omega) (s5_n h5 d203 (by omega)) f2808 f2809 f2810 f2811 f2812 f2813 f2814 f2815 f2816 (k2817)
          · have d174 := (nv_eq (a := so (ln1 z)) (b := 3) (rfl) (rfl) (by omega) (by omega)).mp c174
            refine aw_aload_n 8 dX9_goes_177 rfl rfl ?_
            refine aw_get fX9_95 dX9_goes_178 f2808 rfl ?_
            refine aw_iload 3 dX9_goes_181 rfl ?_
            refine aw_aload_n 8 dX9_goes_183 rfl rfl ?_
            refine aw_get fX9_211 dX9_goes_184 f2808 rfl ?_
            refine aw_iast o (rfl) (by omega) (by decide) dX9_goes_187 f2816 ?_
            refine aw_iinc (j := 3) (nI (o + 1)) [(5, .int (nI (o + 1))), (8, .int (nI (ot (ln1 z)))), (7, .int (nI (so (ln1 z)))), (6, .int (nI z)), (4, .int (nI c)), (3, .int (nI k)), (2, .int (nI d)), (1, .int (nI t)), (0, .ref (G.1 + 88))] dX9_goes_188 rfl (nv_inc (rfl)) (by decide) rfl ?_
            refine aw_aload_n 8 dX9_goes_191 rfl rfl ?_
            refine aw_iload 1 dX9_goes_192 rfl ?_
            refine aw_putQ fX9_211 dX9_goes_194 (lM G (nI sp) (nI fa) (nI nb) (nI ns) (nI nm) (nI (ot (ln1 z))) ow1 sl1 (nI nv) (nI sh)) (gn (by decide) (f2808)) rfl rfl rfl (Nat.le_of_ble_eq_true rfl) rfl ?_
            refine aw_goto 272 dX9_goes_197 (by decide) ?_
            refine aw_iinc (j := 3) (nI (z + 1)) [(6, .int (nI (z + 1))), (5, .int (nI (o + 1))), (8, .int (nI (ot (ln1 z)))), (7, .int (nI (so (ln1 z)))), (4, .int (nI c)), (3, .int (nI k)), (2, .int (nI d)), (1, .int (nI t)), (0, .ref (G.1 + 88))] dX9_goes_272 rfl (nv_inc (rfl)) (by decide) rfl ?_
            refine aw_goto 136 dX9_goes_275 (by decide) ?_
            refine aw_lv [(6, .int (nI (z + 1))), (5, .int (nI (o + 1))), (4, .int (nI c)), (3, .int (nI k)), (2, .int (nI d)), (1, .int (nI t)), (0, .ref (G.1 + 88))] [0, 1, 4, 5, 6, 7, 8] rfl ?_
            exact ih2818 (z + 1) (o + 1) (nI (ot (ln1 z))) ow1 sl1 (upd lt1 o ho1) _ (by omega) (by omega) (by omega) (s5_3 h5 d174) (gs (gn (by decide) (f2808))) (gn (by decide) (gn (by decide) (f2809))) (gn (by decide) (gn (by decide) (f2810))) (gn (by decide) (gn (by decide) (f2811))) (gn (by decide) (gn (by decide) (f2812))) (gn (by decide) (gn (by decide) (f2813))) (gn (by decide) (gn (by decide) (f2814))) (gn (by decide) (gn (by decide) (f2815))) (gn (by decide) (gs f2816)) (rg2_set (rg2_set (k2817) (by decide)) (by decide))
    · have d12 := mt (nv_le (a := nm) (b := i) (rfl) (rfl) (by omega) (by omega)).mpr c12
      refine aw_aload_n 5 dX9_goes_15 rfl rfl ?_
      refine aw_iload 0 dX9_goes_16 rfl ?_
      refine aw_iload_n 4 dX9_goes_18 rfl rfl ?_
      refine aw_iload_n 2 dX9_goes_19 rfl rfl ?_
      refine aw_dV [.int (nI i), .int (nI t), .int (nI k)] [] lX9_208 vX9_isMove mX9_isMove dX9_goes_20 (bX9_isMove (sp := sp) (fa := fa) (nb := nb) (ns := ns) (nm := nm) (nv := nv) (sh := sh) (ho := ho) (ow := ow) (sl := sl) (th := th) (kn := kn) (q := i) (t := t) (k := k) f2796 f2797 f2801 f2802 bth bkn bgo (by omega) (by omega) (by omega)) f2796 rfl rfl rfl (Nat.le_of_ble_eq_true rfl) (by decide) (by decide) rfl ?_
      refine aw_if_eq 107 dX9_goes_23 (by decide) (fun c23 => ?_) (fun c23 => ?_)
      · have t23 := ite_0 c23
        refine aw_iinc (j := 0) (nI (i + 1)) [(5, .int (nI (i + 1))), (4, .int (nI c)), (3, .int (nI k)), (2, .int (nI d)), (1, .int (nI t)), (0, .ref (G.1 + 88))] dX9_goes_107 rfl (nv_inc (rfl)) (by decide) rfl ?_
        refine aw_goto 6 dX9_goes_110 (by decide) ?_
        refine aw_lv [(5, .int (nI (i + 1))), (4, .int (nI c)), (3, .int (nI k)), (2, .int (nI d)), (1, .int (nI t)), (0, .ref (G.1 + 88))] [0, 1, 2, 3, 4, 5] rfl ?_
        exact ih2806 (i + 1) c ln1 _ (by omega) (by omega) (by omega) (hl1) (LN_n hL (fun q => t23 q.2)) f2796 f2797 f2798 f2799 f2800 f2801 f2802 f2803 f2804 (k2805)
      · have t23 := ite_1 c23
        refine aw_aload_n 5 dX9_goes_26 rfl rfl ?_
        refine aw_get fX9_80 dX9_goes_27 f2796 rfl ?_
        refine aw_iload 0 dX9_goes_30 rfl ?_
        refine aw_iald i (rfl) (by omega) (by decide) dX9_goes_32 f2799 ?_
        refine aw_toe (nI (dy i)) (rfl) ?_
        have b2822 := bdy i (by omega)
        refine aw_iload_n 3 dX9_goes_33 rfl rfl ?_
        refine aw_icmp_le 40 dX9_goes_34 (by decide) (fun c34 => ?_) (fun c34 => ?_)
        · have d34 := (nv_le (a := dy i) (b := d) (rfl) (rfl) (by omega) (by omega)).mp c34
          refine aw_iload 1 dX9_goes_40 rfl ?_
          refine aw_istore [(6, .int (nI c)), (5, .int (nI i)), (4, .int (nI c)), (3, .int (nI k)), (2, .int (nI d)), (1, .int (nI t)), (0, .ref (G.1 + 88))] dX9_goes_42 (by decide) rfl ?_
          refine aw_lv [(6, .int (nI c)), (5, .int (nI i)), (4, .int (nI c)), (3, .int (nI k)), (2, .int (nI d)), (1, .int (nI t)), (0, .ref (G.1 + 88))] [0, 1, 2, 3, 4, 5, 6] rfl ?_
          suffices L2834 : ∀ (mm : Nat) (z : Nat) (ln2 : Nat → Nat) (h2823 : List va_E), z < mm → (z ≤ c) → (∀ j, j < 60 → ln2 j < 60) → (∀ x, x < z → ln2 x = ln1 x) → (∀ x, z < x → x ≤ c → ln2 x = ln1 (x - 1)) → (∀ x, z ≤ x → x < c → dy i < dy (ln1 x)) → h2823[88]? = some (oB 9 (lM G (nI sp) (nI fa) (nI nb) (nI ns) (nI nm) ho ow sl (nI nv) (nI sh))) → h2823[108]? = some (aI 60 (nA th)) → h2823[109]? = some (aI 60 (nA ot)) → h2823[110]? = some (aI 60 (nA dy)) → h2823[111]? = some (aI 60 (nA so)) → h2823[112]? = some (aI 60 (nA kn)) → h2823[113]? = some (aI 60 (nA (gM go))) → h2823[114]? = some (aI 60 (nA ln2)) → h2823[115]? = some (aI 60 lt) → rg2 88 88 114 115 h h2823 → AW l G yX9_goes cX9_goes 9 none (xR 1 0 0) (fun _ _ => True) QF 0 0 44 [(6, .int (nI z)), (5, .int (nI i)), (4, .int (nI c)), (3, .int (nI k)), (2, .int (nI d)), (1, .int (nI t)), (0, .ref (G.1 + 88))] [] h2823 from L2834 (c + 1) c ln1 _ (Nat.lt_succ_self _) (Nat.le_refl _) (hl1) (fun _ _ => rfl) (fun x h8 h9 => absurd h8 (by omega)) (fun x h8 h9 => absurd h8 (by omega)) f2796 f2797 f2798 f2799 f2800 f2801 f2802 f2803 f2804 (k2805)
          intro mm
          induction mm with
          | zero =>
            intro z ln2 h2823 hmm hz hl2 hza hzb hzc f2824 f2825 f2826 f2827 f2828 f2829 f2830 f2831 f2832 k2833
            exact absurd hmm (Nat.not_lt_zero _)
          | succ mm ih2834 =>
            intro z ln2 h2823 hmm hz hl2 hza hzb hzc f2824 f2825 f2826 f2827 f2828 f2829 f2830 f2831 f2832 k2833
            refine aw_iload 0 dX9_goes_44 rfl ?_
            refine aw_if_le 95 dX9_goes_46 (by decide) (fun c46 => ?_) (fun c46 => ?_)
            · have d46 := (nv_le (a := z) (b := 0) (rfl) (rfl) (by omega) (by omega)).mp c46
              refine aw_aload_n 6 dX9_goes_95 rfl rfl ?_
              refine aw_get fX9_92 dX9_goes_96 f2824 rfl ?_
              refine aw_iload 0 dX9_goes_99 rfl ?_
              refine aw_iload 1 dX9_goes_101 rfl ?_
              refine aw_iast z (rfl) (by omega) (by decide) dX9_goes_103 f2831 ?_
              rw [nA_u (f := ln2) (i := z) (x := (nI i)) (v := i) (rfl)]
              refine aw_iinc (j := 2) (nI (c + 1)) [(4, .int (nI (c + 1))), (6, .int (nI z)), (5, .int (nI i)), (3, .int (nI k)), (2, .int (nI d)), (1, .int (nI t)), (0, .ref (G.1 + 88))] dX9_goes_104 rfl (nv_inc (rfl)) (by decide) rfl ?_
              refine aw_iinc (j := 2) (nI (i + 1)) [(5, .int (nI (i + 1))), (4, .int (nI (c + 1))), (6, .int (nI z)), (3, .int (nI k)), (2, .int (nI d)), (1, .int (nI t)), (0, .ref (G.1 + 88))] dX9_goes_107 rfl (nv_inc (rfl)) (by decide) rfl ?_
              refine aw_goto 6 dX9_goes_110 (by decide) ?_
              refine aw_lv [(5, .int (nI (i + 1))), (4, .int (nI (c + 1))), (3, .int (nI k)), (2, .int (nI d)), (1, .int (nI t)), (0, .ref (G.1 + 88))] [0, 1, 3, 4, 5, 6] rfl ?_
              exact ih2806 (i + 1) (c + 1) (un ln2 z i) _ (by omega) (by omega) (by omega) (un_lt hl2 (by omega)) (LN_i hL ⟨by omega, t23⟩ hz hza hzb hzc (Or.inl (by omega))) (gn (by decide) (f2824)) (gn (by decide) (f2825)) (gn (by decide) (f2826)) (gn (by decide) (f2827)) (gn (by decide) (f2828)) (gn (by decide) (f2829)) (gn (by decide) (f2830)) (gs f2831) (gn (by decide) (f2832)) (rg2_set (k2833) (by decide))
            · have d46 := mt (nv_le (a := z) (b := 0) (rfl) (rfl) (by omega) (by omega)).mpr c46
              refine aw_aload_n 6 dX9_goes_49 rfl rfl ?_
              refine aw_get fX9_80 dX9_goes_50 f2824 rfl ?_
              refine aw_aload_n 6 dX9_goes_53 rfl rfl ?_
              refine aw_get fX9_92 dX9_goes_54 f2824 rfl ?_
              refine aw_iload 0 dX9_goes_57 rfl ?_
              refine aw_iconst (1) dX9_goes_59 (by decide) ?_
              refine aw_isub dX9_goes_60 ?_
              refine aw_toe (nI (z - 1)) (nv_sub (rfl) (rfl) (by omega)) ?_
              refine aw_iald (z - 1) (rfl) (by omega) (by decide) dX9_goes_61 f2831 ?_
              refine aw_toe (nI (ln2 (z - 1))) (rfl) ?_
              have b2835 := hl2 (z - 1) (by omega)
              refine aw_iald (ln2 (z - 1)) (rfl) (by omega) (by decide) dX9_goes_62 f2827 ?_
              refine aw_toe (nI (dy (ln2 (z - 1)))) (rfl) ?_
              have b2836 := bdy (ln2 (z - 1)) (by omega)
              refine aw_aload_n 6 dX9_goes_63 rfl rfl ?_
              refine aw_get fX9_80 dX9_goes_64 f2824 rfl ?_
              refine aw_iload 1 dX9_goes_67 rfl ?_
              refine aw_iald i (rfl) (by omega) (by decide) dX9_goes_69 f2827 ?_
              refine aw_toe (nI (dy i)) (rfl) ?_
              have b2837 := bdy i (by omega)
              refine aw_icmp_le 95 dX9_goes_70 (by decide) (fun c70 => ?_) (fun c70 => ?_)
              · have d70 := (nv_le (a := dy (ln2 (z - 1))) (b := dy i) (rfl) (rfl) (by omega) (by omega)).mp c70
                refine aw_aload_n 6 dX9_goes_95 rfl rfl ?_
                refine aw_get fX9_92 dX9_goes_96 f2824 rfl ?_
                refine aw_iload 0 dX9_goes_99 rfl ?_
                refine aw_iload 1 dX9_goes_101 rfl ?_
                refine aw_iast z (rfl) (by omega) (by decide) dX9_goes_103 f2831 ?_
                rw [nA_u (f := ln2) (i := z) (x := (nI i)) (v := i) (rfl)]
                refine aw_iinc (j := 2) (nI (c + 1)) [(4, .int (nI (c + 1))), (6, .int (nI z)), (5, .int (nI i)), (3, .int (nI k)), (2, .int (nI d)), (1, .int (nI t)), (0, .ref (G.1 + 88))] dX9_goes_104 rfl (nv_inc (rfl)) (by decide) rfl ?_
                refine aw_iinc (j := 2) (nI (i + 1)) [(5, .int (nI (i + 1))), (4, .int (nI (c + 1))), (6, .int (nI z)), (3, .int (nI k)), (2, .int (nI d)), (1, .int (nI t)), (0, .ref (G.1 + 88))] dX9_goes_107 rfl (nv_inc (rfl)) (by decide) rfl ?_
                refine aw_goto 6 dX9_goes_110 (by decide) ?_
                refine aw_lv [(5, .int (nI (i + 1))), (4, .int (nI (c + 1))), (3, .int (nI k)), (2, .int (nI d)), (1, .int (nI t)), (0, .ref (G.1 + 88))] [0, 1, 3, 4, 5, 6] rfl ?_
                exact ih2806 (i + 1) (c + 1) (un ln2 z i) _ (by omega) (by omega) (by omega) (un_lt hl2 (by omega)) (LN_i hL ⟨by omega, t23⟩ hz hza hzb hzc (Or.inr (by omega))) (gn (by decide) (f2824)) (gn (by decide) (f2825)) (gn (by decide) (f2826)) (gn (by decide) (f2827)) (gn (by decide) (f2828)) (gn (by decide) (f2829)) (gn (by decide) (f2830)) (gs f2831) (gn (by decide) (f2832)) (rg2_set (k2833) (by decide))
              · have d70 := mt (nv_le (a := dy (ln2 (z - 1))) (b := dy i) (rfl) (rfl) (by omega) (by omega)).mpr c70
                refine aw_aload_n 6 dX9_goes_73 rfl rfl ?_
                refine aw_get fX9_92 dX9_goes_74 f2824 rfl ?_
                refine aw_iload 0 dX9_goes_77 rfl ?_
                refine aw_aload_n 6 dX9_goes_79 rfl rfl ?_
                refine aw_get fX9_92 dX9_goes_80 f2824 rfl ?_
                refine aw_iload 0 dX9_goes_83 rfl ?_
                refine aw_iconst (1) dX9_goes_85 (by decide) ?_
                refine aw_isub dX9_goes_86 ?_
                refine aw_toe (nI (z - 1)) (nv_sub (rfl) (rfl) (by omega)) ?_
                refine aw_iald (z - 1) (rfl) (by omega) (by decide) dX9_goes_87 f2831 ?_
                refine aw_toe (nI (ln2 (z - 1))) (rfl) ?_
                have b2838 := hl2 (z - 1) (by omega)
                refine aw_iast z (rfl) (by omega) (by decide) dX9_goes_88 f2831 ?_
                rw [nA_u (f := ln2) (i := z) (x := (nI (ln2 (z - 1)))) (v := ln2 (z - 1)) (rfl)]
                refine aw_iinc (j := 0) (nI (z - 1)) [(6, .int (nI (z - 1))), (5, .int (nI i)), (4, .int (nI c)), (3, .int (nI k)), (2, .int (nI d)), (1, .int (nI t)), (0, .ref (G.1 + 88))] dX9_goes_89 rfl (nv_dm (rfl) (by omega)) (by decide) rfl ?_
                refine aw_goto 44 dX9_goes_92 (by decide) ?_
                refine aw_lv [(6, .int (nI (z - 1))), (5, .int (nI i)), (4, .int (nI c)), (3, .int (nI k)), (2, .int (nI d)), (1, .int (nI t)), (0, .ref (G.1 + 88))] [0, 1, 2, 3, 4, 5, 6] rfl ?_
                exact ih2834 (z - 1) (un ln2 z (ln2 (z - 1))) _ (by omega) (by omega) (un_lt hl2 (by omega)) (ins_a hza) (ins_b (by omega) hza hzb) (ins_c (by omega) hza hzc (by omega)) (gn (by decide) (f2824)) (gn (by decide) (f2825)) (gn (by decide) (f2826)) (gn (by decide) (f2827)) (gn (by decide) (f2828)) (gn (by decide) (f2829)) (gn (by decide) (f2830)) (gs f2831) (gn (by decide) (f2832)) (rg2_set (k2833) (by decide))
        · have d34 := mt (nv_le (a := dy i) (b := d) (rfl) (rfl) (by omega) (by omega)).mpr c34
          refine aw_goto 107 dX9_goes_37 (by decide) ?_
          refine aw_iinc (j := 0) (nI (i + 1)) [(5, .int (nI (i + 1))), (4, .int (nI c)), (3, .int (nI k)), (2, .int (nI d)), (1, .int (nI t)), (0, .ref (G.1 + 88))] dX9_goes_107 rfl (nv_inc (rfl)) (by decide) rfl ?_
          refine aw_goto 6 dX9_goes_110 (by decide) ?_
          refine aw_lv [(5, .int (nI (i + 1))), (4, .int (nI c)), (3, .int (nI k)), (2, .int (nI d)), (1, .int (nI t)), (0, .ref (G.1 + 88))] [0, 1, 2, 3, 4, 5] rfl ?_
          exact ih2806 (i + 1) c ln1 _ (by omega) (by omega) (by omega) (hl1) (LN_n hL (fun q => absurd q.1 (by omega))) f2796 f2797 f2798 f2799 f2800 f2801 f2802 f2803 f2804 (k2805)

set_option maxHeartbeats 4000000 in
set_option maxRecDepth 100000 in
theorem c_X11_isMore (l : Launch) (dC : Nat → ClassId) (dI : Nat → Nat → Nat) (ad : Nat → Nat) (tN : Nat) (fN : Nat → Int64) (cB cI cJ cZ : ClassId) (q1 : Int64) (q2 : Int64) (q3 : Int64) (q4 : Int64) (sz : Nat) (hq_b : ¬ q2 = 0) (hq_d : ¬ q4 = 0) : Met l yX11_isMore wsX11_isMore ({ frames := 0, cells := 0, slots := 0, locals := 0 } : Room) (va_Pc [.long q1, .long q2, .long q3, .long q4] (fun U => U.heap.size = sz ∧ va_P (dC, dI) vwCl (List.flatten []) U.heap ∧ va_K (dC, dI) vwCl [(cB, .byte), (cI, .int), (cJ, .long), (cZ, .boolean)] U ∧ va_D (fun _ => True) (List.flatten []) ∧ ex_Y ad tN fN (va_A (List.flatten []) sz) U)) (va_Qi (fun (r : Int32) (_ : Unit) => 0 ≤ r.toInt ∧ r.toInt ≤ 1) (fun (_ : Unit) (t : State) => va_P (dC, dI) vwCl (List.flatten []) t.heap ∧ va_D (va_A (List.flatten []) sz) (List.flatten [])) (va_A (List.flatten []) sz)) 0 0 (va_A (List.flatten []) sz) := by
  refine Met.ofW (cc := cX11_isMore) (maxL := 23) (ret := (some .boolean)) (by decide) rfl ?_
  intro p e s m args below meth c s₁ B hml hv
  obtain ⟨rfl, hsz, hP, hK, hD0, hE⟩ := hv
  have hx := B.exec
  have hb := B.bytes
  have hr := B.returns
  have hts := atoms_spec (ws := wsX11_isMore) B.pre
  have hown : s.vm.findClass RX11 = some m.cls := findClass_of_methodNamed B.named
  have hlocks := B.notSynchronized
  subst hsz
  have hD := hD0.self (sz := s.heap.size)
  generalize hAe : va_A (List.flatten []) s.heap.size = A at hD hE ⊢
  have hA : ∀ q : Nat, s.heap.size ≤ q → A q := fun q h => by rw [← hAe]; exact Or.inr h
  have hS : va_S A s.heap s.heap [] := va_S.rf
  have hl := lv_entry ([.long q1, .long q2, .long q3, .long q4]) (n := 23) (Nat.le_of_ble_eq_true rfl)
  rw [lg_entry_eq]
  generalize (lg_sl ([.long q1, .long q2, .long q3, .long q4]) ++ List.replicate (23 - (lg_sl ([.long q1, .long q2, .long q3, .long q4])).length) Slot.unset).toArray = ls at hl ⊢
  have hl : lv_has ls 23 [(0, .long q1), (2, .long q2), (4, .long q3), (6, .long q4)] := hl
  clear hAe
  refine W_name (fun Q0 hQ0 => ?_)
  refine lv_lload_n hx hb dX11_isMore_0 rfl (lv_at hl 0 rfl) ?_
  refine lv_lstore (lv' := [(8, .long q1), (0, .long q1), (2, .long q2), (4, .long q3), (6, .long q4)]) hx hb dX11_isMore_1 hl (by decide) rfl (fun ls hl => ?_)
  refine lv_lload_n hx hb dX11_isMore_3 rfl (lv_at hl 2 rfl) ?_
  refine lv_lstore (lv' := [(10, .long q2), (8, .long q1), (0, .long q1), (2, .long q2), (4, .long q3), (6, .long q4)]) hx hb dX11_isMore_4 hl (by decide) rfl (fun ls hl => ?_)
  refine lv_lload hx hb dX11_isMore_6 (lv_at hl 4 rfl) ?_
  refine lv_lstore (lv' := [(12, .long q3), (10, .long q2), (8, .long q1), (0, .long q1), (2, .long q2), (4, .long q3), (6, .long q4)]) hx hb dX11_isMore_8 hl (by decide) rfl (fun ls hl => ?_)
  refine lv_lload hx hb dX11_isMore_10 (lv_at hl 6 rfl) ?_
  refine lv_lstore (lv' := [(14, .long q4), (12, .long q3), (10, .long q2), (8, .long q1), (0, .long q1), (2, .long q2), (4, .long q3), (6, .long q4)]) hx hb dX11_isMore_12 hl (by decide) rfl (fun ls hl => ?_)
  refine lv_iconst (v := 0) hx hb dX11_isMore_14 (by decide) ?_
  refine lv_istore (lv' := [(16, .int 0), (14, .long q4), (12, .long q3), (10, .long q2), (8, .long q1), (0, .long q1), (2, .long q2), (4, .long q3), (6, .long q4)]) hx hb dX11_isMore_15 hl (by decide) rfl (fun ls hl => ?_)
  have lp_72 : ∀ (n : Nat) (g_1 : Int32) (g_2 : Int64) (g_3 : Int64) (g_4 : Int64) (g_5 : Int64), 0 ≤ g_1.toInt → g_1.toInt ≤ 1 → ¬ g_4 = 0 → ¬ g_2 = 0 → ((g_4.toInt.natAbs : Int)).toNat < n → ∀ (H : Heap) (locs : List Loc), va_P (dC, dI) vwCl (List.flatten []) H → va_D A (List.flatten []) → va_S A s.heap H locs → ∀ (ls : Array Slot), lv_has ls 23 [(16, .int g_1), (14, .long g_2), (12, .long g_3), (10, .long g_4), (8, .long g_5), (0, .long q1), (2, .long q2), (4, .long q3), (6, .long q4)] → W p l e (headSpec wsX11_isMore ({ frames := 0, cells := 0, slots := 0, locals := 0 } : Room)).room s m ([.long q1, .long q2, .long q3, .long q4] : List Value).toArray below meth c H locs 0 0 Q0 (F0 m 17 ls []) := by
    intro n
    induction n with
    | zero => intro g_1 g_2 g_3 g_4 g_5 iv_68 iv_69 iv_70 iv_71 hm; exact absurd hm (Nat.not_lt_zero _)
    | succ n ih_73 =>
      intro g_1 g_2 g_3 g_4 g_5 iv_68 iv_69 iv_70 iv_71 hm H locs hP hD hS ls hl
      refine lv_lload hx hb dX11_isMore_17 (lv_at hl 4 rfl) ?_
      refine lv_lload hx hb dX11_isMore_19 (lv_at hl 3 rfl) ?_
      refine lv_ldiv hx hb dX11_isMore_21 iv_70 ?_
      refine lv_topl (fun z_74 ez_74 => ?_)
      refine lv_lstore (lv' := [(17, .long z_74), (16, .int g_1), (14, .long g_2), (12, .long g_3), (10, .long g_4), (8, .long g_5), (0, .long q1), (2, .long q2), (4, .long q3), (6, .long q4)]) hx hb dX11_isMore_22 hl (by decide) rfl (fun ls hl => ?_)
      refine lv_lload hx hb dX11_isMore_24 (lv_at hl 3 rfl) ?_
      refine lv_lload hx hb dX11_isMore_26 (lv_at hl 2 rfl) ?_
      refine lv_ldiv hx hb dX11_isMore_28 iv_71 ?_
      refine lv_topl (fun z_75 ez_75 => ?_)
      refine lv_lstore (lv' := [(19, .long z_75), (17, .long z_74), (16, .int g_1), (14, .long g_2), (12, .long g_3), (10, .long g_4), (8, .long g_5), (0, .long q1), (2, .long q2), (4, .long q3), (6, .long q4)]) hx hb dX11_isMore_29 hl (by decide) rfl (fun ls hl => ?_)
      refine lv_lload hx hb dX11_isMore_31 (lv_at hl 1 rfl) ?_
      refine lv_lload hx hb dX11_isMore_33 (lv_at hl 0 rfl) ?_
      refine W.lcmp hx hb dX11_isMore_35 ?_
      refine lv_topi (fun z_76 ez_76 => ?_)
      refine lv_if_eq (tgt := 63) hx hb dX11_isMore_36 (by decide) (fun c_77 => ?_) (fun c_77 => ?_)
      · have c_77 : z_76.toInt = 0 := f_eq rfl tI_0 c_77
        refine lv_lload hx hb dX11_isMore_63 (lv_at hl 6 rfl) ?_
        refine lv_lload hx hb dX11_isMore_65 (lv_at hl 1 rfl) ?_
        refine lv_lload hx hb dX11_isMore_67 (lv_at hl 5 rfl) ?_
        refine lv_lmul hx hb dX11_isMore_69 ?_
        refine lv_topl (fun z_78 ez_78 => ?_)
        refine lv_lsub hx hb dX11_isMore_70 ?_
        refine lv_topl (fun z_79 ez_79 => ?_)
        refine lv_lstore (lv' := [(8, .long z_79), (19, .long z_75), (17, .long z_74), (16, .int g_1), (14, .long g_2), (12, .long g_3), (10, .long g_4), (0, .long q1), (2, .long q2), (4, .long q3), (6, .long q4)]) hx hb dX11_isMore_71 hl (by decide) rfl (fun ls hl => ?_)
        refine lv_lload hx hb dX11_isMore_73 (lv_at hl 5 rfl) ?_
        refine lv_lload hx hb dX11_isMore_75 (lv_at hl 1 rfl) ?_
        refine lv_lload hx hb dX11_isMore_77 (lv_at hl 4 rfl) ?_
        refine lv_lmul hx hb dX11_isMore_79 ?_
        refine lv_topl (fun z_80 ez_80 => ?_)
        refine lv_lsub hx hb dX11_isMore_80 ?_
        refine lv_topl (fun z_81 ez_81 => ?_)
        refine lv_lstore (lv' := [(12, .long z_81), (8, .long z_79), (19, .long z_75), (17, .long z_74), (16, .int g_1), (14, .long g_2), (10, .long g_4), (0, .long q1), (2, .long q2), (4, .long q3), (6, .long q4)]) hx hb dX11_isMore_81 hl (by decide) rfl (fun ls hl => ?_)
        refine lv_lload hx hb dX11_isMore_83 (lv_at hl 1 rfl) ?_
        refine lv_lconst (v := 0) hx hb dX11_isMore_85 (by decide) ?_
        refine W.lcmp hx hb dX11_isMore_86 ?_
        refine lv_topi (fun z_82 ez_82 => ?_)
        refine lv_if_eq (tgt := 97) hx hb dX11_isMore_87 (by decide) (fun c_83 => ?_) (fun c_83 => ?_)
        · have c_83 : z_82.toInt = 0 := f_eq rfl tI_0 c_83
          refine lv_lload hx hb dX11_isMore_97 (lv_at hl 1 rfl) ?_
          refine lv_lload hx hb dX11_isMore_99 (lv_at hl 0 rfl) ?_
          refine W.lcmp hx hb dX11_isMore_101 ?_
          refine lv_topi (fun z_84 ez_84 => ?_)
          refine lv_if_eq (tgt := 127) hx hb dX11_isMore_102 (by decide) (fun c_85 => ?_) (fun c_85 => ?_)
          · have c_85 : z_84.toInt = 0 := f_eq rfl tI_0 c_85
            refine lv_iconst (v := 0) hx hb dX11_isMore_127 (by decide) ?_
            rw [hQ0]
            exact W.zret (v := 0) hx hb hr (by decide) (fun t ht hW => ⟨⟨0, (), rfl, ⟨by decide, by decide⟩, ⟨by rw [ht]; exact hP, hD⟩⟩, hS.F ht⟩) hS.2.2 dX11_isMore_128
          · have c_85 : ¬ z_84.toInt = 0 := f_ne rfl tI_0 c_85
            refine lv_lload hx hb dX11_isMore_105 (lv_at hl 1 rfl) ?_
            refine lv_lload hx hb dX11_isMore_107 (lv_at hl 0 rfl) ?_
            refine W.lcmp hx hb dX11_isMore_109 ?_
            refine lv_topi (fun z_86 ez_86 => ?_)
            refine lv_if_le (tgt := 117) hx hb dX11_isMore_110 (by decide) (fun c_87 => ?_) (fun c_87 => ?_)
            · have c_87 : z_86.toInt ≤ 0 := f_le rfl tI_0 c_87
              refine lv_iconst (v := 0) hx hb dX11_isMore_117 (by decide) ?_
              refine lv_iload hx hb dX11_isMore_118 (lv_at hl 4 rfl) ?_
              refine lv_icmp_eq (tgt := 127) hx hb dX11_isMore_120 (by decide) (fun c_88 => ?_) (fun c_88 => ?_)
              · have c_88 : 0 = g_1.toInt := f_eq tI_0 rfl c_88
                refine lv_iconst (v := 0) hx hb dX11_isMore_127 (by decide) ?_
                rw [hQ0]
                exact W.zret (v := 0) hx hb hr (by decide) (fun t ht hW => ⟨⟨0, (), rfl, ⟨by decide, by decide⟩, ⟨by rw [ht]; exact hP, hD⟩⟩, hS.F ht⟩) hS.2.2 dX11_isMore_128
              · have c_88 : ¬ 0 = g_1.toInt := f_ne tI_0 rfl c_88
                refine lv_iconst (v := 1) hx hb dX11_isMore_123 (by decide) ?_
                refine lv_goto (tgt := 128) hx hb dX11_isMore_124 (by decide) ?_
                rw [hQ0]
                exact W.zret (v := 1) hx hb hr (by decide) (fun t ht hW => ⟨⟨1, (), rfl, ⟨by decide, by decide⟩, ⟨by rw [ht]; exact hP, hD⟩⟩, hS.F ht⟩) hS.2.2 dX11_isMore_128
            · have c_87 : 0 < z_86.toInt := f_nle rfl tI_0 c_87
              refine lv_iconst (v := 1) hx hb dX11_isMore_113 (by decide) ?_
              refine lv_goto (tgt := 118) hx hb dX11_isMore_114 (by decide) ?_
              refine lv_iload hx hb dX11_isMore_118 (lv_at hl 4 rfl) ?_
              refine lv_icmp_eq (tgt := 127) hx hb dX11_isMore_120 (by decide) (fun c_89 => ?_) (fun c_89 => ?_)
              · have c_89 : 1 = g_1.toInt := f_eq tI_1 rfl c_89
                refine lv_iconst (v := 0) hx hb dX11_isMore_127 (by decide) ?_
                rw [hQ0]
                exact W.zret (v := 0) hx hb hr (by decide) (fun t ht hW => ⟨⟨0, (), rfl, ⟨by decide, by decide⟩, ⟨by rw [ht]; exact hP, hD⟩⟩, hS.F ht⟩) hS.2.2 dX11_isMore_128
              · have c_89 : ¬ 1 = g_1.toInt := f_ne tI_1 rfl c_89
                refine lv_iconst (v := 1) hx hb dX11_isMore_123 (by decide) ?_
                refine lv_goto (tgt := 128) hx hb dX11_isMore_124 (by decide) ?_
                rw [hQ0]
                exact W.zret (v := 1) hx hb hr (by decide) (fun t ht hW => ⟨⟨1, (), rfl, ⟨by decide, by decide⟩, ⟨by rw [ht]; exact hP, hD⟩⟩, hS.F ht⟩) hS.2.2 dX11_isMore_128
        · have n_90 : ¬ z_79 = 0 := lc_ne ez_82 c_83
          have c_83 : ¬ z_82.toInt = 0 := f_ne rfl tI_0 c_83
          refine lv_lload hx hb dX11_isMore_90 (lv_at hl 0 rfl) ?_
          refine lv_lconst (v := 0) hx hb dX11_isMore_92 (by decide) ?_
          refine W.lcmp hx hb dX11_isMore_93 ?_
          refine lv_topi (fun z_91 ez_91 => ?_)
          refine lv_if_ne (tgt := 129) hx hb dX11_isMore_94 (by decide) (fun c_92 => ?_) (fun c_92 => ?_)
          · have n_93 : ¬ z_81 = 0 := lc_ne ez_91 c_92
            have c_92 : ¬ z_91.toInt = 0 := f_ne rfl tI_0 c_92
            refine lv_lload hx hb dX11_isMore_129 (lv_at hl 1 rfl) ?_
            refine lv_lstore (lv' := [(21, .long z_79), (12, .long z_81), (8, .long z_79), (19, .long z_75), (17, .long z_74), (16, .int g_1), (14, .long g_2), (10, .long g_4), (0, .long q1), (2, .long q2), (4, .long q3), (6, .long q4)]) hx hb dX11_isMore_131 hl (by decide) rfl (fun ls hl => ?_)
            refine lv_lload hx hb dX11_isMore_133 (lv_at hl 7 rfl) ?_
            refine lv_lstore (lv' := [(8, .long g_4), (21, .long z_79), (12, .long z_81), (19, .long z_75), (17, .long z_74), (16, .int g_1), (14, .long g_2), (10, .long g_4), (0, .long q1), (2, .long q2), (4, .long q3), (6, .long q4)]) hx hb dX11_isMore_135 hl (by decide) rfl (fun ls hl => ?_)
            refine lv_lload hx hb dX11_isMore_137 (lv_at hl 1 rfl) ?_
            refine lv_lstore (lv' := [(10, .long z_79), (8, .long g_4), (21, .long z_79), (12, .long z_81), (19, .long z_75), (17, .long z_74), (16, .int g_1), (14, .long g_2), (0, .long q1), (2, .long q2), (4, .long q3), (6, .long q4)]) hx hb dX11_isMore_139 hl (by decide) rfl (fun ls hl => ?_)
            refine lv_lload hx hb dX11_isMore_141 (lv_at hl 3 rfl) ?_
            refine lv_lstore (lv' := [(21, .long z_81), (10, .long z_79), (8, .long g_4), (12, .long z_81), (19, .long z_75), (17, .long z_74), (16, .int g_1), (14, .long g_2), (0, .long q1), (2, .long q2), (4, .long q3), (6, .long q4)]) hx hb dX11_isMore_143 hl (by decide) rfl (fun ls hl => ?_)
            refine lv_lload hx hb dX11_isMore_145 (lv_at hl 7 rfl) ?_
            refine lv_lstore (lv' := [(12, .long g_2), (21, .long z_81), (10, .long z_79), (8, .long g_4), (19, .long z_75), (17, .long z_74), (16, .int g_1), (14, .long g_2), (0, .long q1), (2, .long q2), (4, .long q3), (6, .long q4)]) hx hb dX11_isMore_147 hl (by decide) rfl (fun ls hl => ?_)
            refine lv_lload hx hb dX11_isMore_149 (lv_at hl 1 rfl) ?_
            refine lv_lstore (lv' := [(14, .long z_81), (12, .long g_2), (21, .long z_81), (10, .long z_79), (8, .long g_4), (19, .long z_75), (17, .long z_74), (16, .int g_1), (0, .long q1), (2, .long q2), (4, .long q3), (6, .long q4)]) hx hb dX11_isMore_151 hl (by decide) rfl (fun ls hl => ?_)
            refine lv_iload hx hb dX11_isMore_153 (lv_at hl 7 rfl) ?_
            refine lv_if_ne (tgt := 162) hx hb dX11_isMore_155 (by decide) (fun c_94 => ?_) (fun c_94 => ?_)
            · have c_94 : ¬ g_1.toInt = 0 := f_ne rfl tI_0 c_94
              refine lv_iconst (v := 0) hx hb dX11_isMore_162 (by decide) ?_
              refine lv_istore (lv' := [(16, .int 0), (14, .long z_81), (12, .long g_2), (21, .long z_81), (10, .long z_79), (8, .long g_4), (19, .long z_75), (17, .long z_74), (0, .long q1), (2, .long q2), (4, .long q3), (6, .long q4)]) hx hb dX11_isMore_163 hl (by decide) rfl (fun ls hl => ?_)
              refine lv_goto (tgt := 17) hx hb dX11_isMore_165 (by decide) ?_
              exact ih_73 0 z_81 g_2 z_79 g_4 (by have := tI_0; omega) (by have := tI_0; omega) n_90 n_93 (by have h9 := im_lt ez_74 ez_78 ez_79 iv_70; omega) _ _ hP hD hS ls (lv_sub hl [0, 1, 2, 4, 5, 8, 9, 10, 11] rfl)
            · have c_94 : g_1.toInt = 0 := f_eq rfl tI_0 c_94
              refine lv_iconst (v := 1) hx hb dX11_isMore_158 (by decide) ?_
              refine lv_goto (tgt := 163) hx hb dX11_isMore_159 (by decide) ?_
              refine lv_istore (lv' := [(16, .int 1), (14, .long z_81), (12, .long g_2), (21, .long z_81), (10, .long z_79), (8, .long g_4), (19, .long z_75), (17, .long z_74), (0, .long q1), (2, .long q2), (4, .long q3), (6, .long q4)]) hx hb dX11_isMore_163 hl (by decide) rfl (fun ls hl => ?_)
              refine lv_goto (tgt := 17) hx hb dX11_isMore_165 (by decide) ?_
              exact ih_73 1 z_81 g_2 z_79 g_4 (by have := tI_1; omega) (by have := tI_1; omega) n_90 n_93 (by have h9 := im_lt ez_74 ez_78 ez_79 iv_70; omega) _ _ hP hD hS ls (lv_sub hl [0, 1, 2, 4, 5, 8, 9, 10, 11] rfl)
          · have c_92 : z_91.toInt = 0 := f_eq rfl tI_0 c_92
            refine lv_lload hx hb dX11_isMore_97 (lv_at hl 1 rfl) ?_
            refine lv_lload hx hb dX11_isMore_99 (lv_at hl 0 rfl) ?_
            refine W.lcmp hx hb dX11_isMore_101 ?_
            refine lv_topi (fun z_95 ez_95 => ?_)
            refine lv_if_eq (tgt := 127) hx hb dX11_isMore_102 (by decide) (fun c_96 => ?_) (fun c_96 => ?_)
            · have c_96 : z_95.toInt = 0 := f_eq rfl tI_0 c_96
              refine lv_iconst (v := 0) hx hb dX11_isMore_127 (by decide) ?_
              rw [hQ0]
              exact W.zret (v := 0) hx hb hr (by decide) (fun t ht hW => ⟨⟨0, (), rfl, ⟨by decide, by decide⟩, ⟨by rw [ht]; exact hP, hD⟩⟩, hS.F ht⟩) hS.2.2 dX11_isMore_128
            · have c_96 : ¬ z_95.toInt = 0 := f_ne rfl tI_0 c_96
              refine lv_lload hx hb dX11_isMore_105 (lv_at hl 1 rfl) ?_
              refine lv_lload hx hb dX11_isMore_107 (lv_at hl 0 rfl) ?_
              refine W.lcmp hx hb dX11_isMore_109 ?_
              refine lv_topi (fun z_97 ez_97 => ?_)
              refine lv_if_le (tgt := 117) hx hb dX11_isMore_110 (by decide) (fun c_98 => ?_) (fun c_98 => ?_)
              · have c_98 : z_97.toInt ≤ 0 := f_le rfl tI_0 c_98
                refine lv_iconst (v := 0) hx hb dX11_isMore_117 (by decide) ?_
                refine lv_iload hx hb dX11_isMore_118 (lv_at hl 4 rfl) ?_
                refine lv_icmp_eq (tgt := 127) hx hb dX11_isMore_120 (by decide) (fun c_99 => ?_) (fun c_99 => ?_)
                · have c_99 : 0 = g_1.toInt := f_eq tI_0 rfl c_99
                  refine lv_iconst (v := 0) hx hb dX11_isMore_127 (by decide) ?_
                  rw [hQ0]
                  exact W.zret (v := 0) hx hb hr (by decide) (fun t ht hW => ⟨⟨0, (), rfl, ⟨by decide, by decide⟩, ⟨by rw [ht]; exact hP, hD⟩⟩, hS.F ht⟩) hS.2.2 dX11_isMore_128
                · have c_99 : ¬ 0 = g_1.toInt := f_ne tI_0 rfl c_99
                  refine lv_iconst (v := 1) hx hb dX11_isMore_123 (by decide) ?_
                  refine lv_goto (tgt := 128) hx hb dX11_isMore_124 (by decide) ?_
                  rw [hQ0]
                  exact W.zret (v := 1) hx hb hr (by decide) (fun t ht hW => ⟨⟨1, (), rfl, ⟨by decide, by decide⟩, ⟨by rw [ht]; exact hP, hD⟩⟩, hS.F ht⟩) hS.2.2 dX11_isMore_128
              · have c_98 : 0 < z_97.toInt := f_nle rfl tI_0 c_98
                refine lv_iconst (v := 1) hx hb dX11_isMore_113 (by decide) ?_
                refine lv_goto (tgt := 118) hx hb dX11_isMore_114 (by decide) ?_
                refine lv_iload hx hb dX11_isMore_118 (lv_at hl 4 rfl) ?_
                refine lv_icmp_eq (tgt := 127) hx hb dX11_isMore_120 (by decide) (fun c_100 => ?_) (fun c_100 => ?_)
                · have c_100 : 1 = g_1.toInt := f_eq tI_1 rfl c_100
                  refine lv_iconst (v := 0) hx hb dX11_isMore_127 (by decide) ?_
                  rw [hQ0]
                  exact W.zret (v := 0) hx hb hr (by decide) (fun t ht hW => ⟨⟨0, (), rfl, ⟨by decide, by decide⟩, ⟨by rw [ht]; exact hP, hD⟩⟩, hS.F ht⟩) hS.2.2 dX11_isMore_128
                · have c_100 : ¬ 1 = g_1.toInt := f_ne tI_1 rfl c_100
                  refine lv_iconst (v := 1) hx hb dX11_isMore_123 (by decide) ?_
                  refine lv_goto (tgt := 128) hx hb dX11_isMore_124 (by decide) ?_
                  rw [hQ0]
                  exact W.zret (v := 1) hx hb hr (by decide) (fun t ht hW => ⟨⟨1, (), rfl, ⟨by decide, by decide⟩, ⟨by rw [ht]; exact hP, hD⟩⟩, hS.F ht⟩) hS.2.2 dX11_isMore_128
      · have c_77 : ¬ z_76.toInt = 0 := f_ne rfl tI_0 c_77
        refine lv_lload hx hb dX11_isMore_39 (lv_at hl 1 rfl) ?_
        refine lv_lload hx hb dX11_isMore_41 (lv_at hl 0 rfl) ?_
        refine W.lcmp hx hb dX11_isMore_43 ?_
        refine lv_topi (fun z_101 ez_101 => ?_)
        refine lv_if_le (tgt := 51) hx hb dX11_isMore_44 (by decide) (fun c_102 => ?_) (fun c_102 => ?_)
        · have c_102 : z_101.toInt ≤ 0 := f_le rfl tI_0 c_102
          refine lv_iconst (v := 0) hx hb dX11_isMore_51 (by decide) ?_
          refine lv_iload hx hb dX11_isMore_52 (lv_at hl 2 rfl) ?_
          refine lv_icmp_eq (tgt := 61) hx hb dX11_isMore_54 (by decide) (fun c_103 => ?_) (fun c_103 => ?_)
          · have c_103 : 0 = g_1.toInt := f_eq tI_0 rfl c_103
            refine lv_iconst (v := 0) hx hb dX11_isMore_61 (by decide) ?_
            rw [hQ0]
            exact W.zret (v := 0) hx hb hr (by decide) (fun t ht hW => ⟨⟨0, (), rfl, ⟨by decide, by decide⟩, ⟨by rw [ht]; exact hP, hD⟩⟩, hS.F ht⟩) hS.2.2 dX11_isMore_62
          · have c_103 : ¬ 0 = g_1.toInt := f_ne tI_0 rfl c_103
            refine lv_iconst (v := 1) hx hb dX11_isMore_57 (by decide) ?_
            refine lv_goto (tgt := 62) hx hb dX11_isMore_58 (by decide) ?_
            rw [hQ0]
            exact W.zret (v := 1) hx hb hr (by decide) (fun t ht hW => ⟨⟨1, (), rfl, ⟨by decide, by decide⟩, ⟨by rw [ht]; exact hP, hD⟩⟩, hS.F ht⟩) hS.2.2 dX11_isMore_62
        · have c_102 : 0 < z_101.toInt := f_nle rfl tI_0 c_102
          refine lv_iconst (v := 1) hx hb dX11_isMore_47 (by decide) ?_
          refine lv_goto (tgt := 52) hx hb dX11_isMore_48 (by decide) ?_
          refine lv_iload hx hb dX11_isMore_52 (lv_at hl 2 rfl) ?_
          refine lv_icmp_eq (tgt := 61) hx hb dX11_isMore_54 (by decide) (fun c_104 => ?_) (fun c_104 => ?_)
          · have c_104 : 1 = g_1.toInt := f_eq tI_1 rfl c_104
            refine lv_iconst (v := 0) hx hb dX11_isMore_61 (by decide) ?_
            rw [hQ0]
            exact W.zret (v := 0) hx hb hr (by decide) (fun t ht hW => ⟨⟨0, (), rfl, ⟨by decide, by decide⟩, ⟨by rw [ht]; exact hP, hD⟩⟩, hS.F ht⟩) hS.2.2 dX11_isMore_62
          · have c_104 : ¬ 1 = g_1.toInt := f_ne tI_1 rfl c_104
            refine lv_iconst (v := 1) hx hb dX11_isMore_57 (by decide) ?_
            refine lv_goto (tgt := 62) hx hb dX11_isMore_58 (by decide) ?_
            rw [hQ0]
            exact W.zret (v := 1) hx hb hr (by decide) (fun t ht hW => ⟨⟨1, (), rfl, ⟨by decide, by decide⟩, ⟨by rw [ht]; exact hP, hD⟩⟩, hS.F ht⟩) hS.2.2 dX11_isMore_62
  exact lp_72 _ 0 q4 q3 q2 q1 (by have := tI_0; omega) (by have := tI_0; omega) hq_b hq_d (Nat.lt_succ_self _) _ _ hP hD hS ls (lv_sub hl [0, 1, 2, 3, 4, 5, 6, 7, 8] rfl)

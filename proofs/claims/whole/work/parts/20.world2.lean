section MWORLD2
variable {l : Launch} {g : zG} {d m0 m1 md : Nat} {M : zM} {T : Nat}
theorem C_X10_world (hT : M 99 16 = nI T) (hT1 : 1 ≤ T) (hT2 : T ≤ 12) {t w v : Int32} {Q : Int32 → zS → zM → Prop} (hQ : Q (g_world M t w v).1 (ZS m0 m1 md) (g_world M t w v).2) : AMet l g yX10_world cX10_world 5 (some .int) (d + 2) 0 0 [.ref 99, .int t, .int w, .int v] (ZS m0 m1 md) M (z_Qi Q) := by
  unfold g_world at hQ
  rw [hT, z_ti (by omega)] at hQ
  refine AMet.of (ini := false) rfl (fun h => by first | rfl | cases h) (Nat.le_of_ble_eq_true rfl) ?_
  show AW l g RX10 cX10_world 5 (some .int) false _ _ _ 0 [some (.ref 99), some (.int t), some (.int w), some (.int v), none] [] _ _ _
  refine AW.aload_n 1 dX10_world_0 rfl rfl ?_
  refine AW.iload_n 2 dX10_world_1 rfl rfl ?_
  refine AW.cVi1 5 dX10_world_2 kX10_184 (zI rfl rfl) (Nat.le_of_ble_eq_true rfl) rfl (C_X10_isTick hT hT1 hT2 (fun b2 => ?_) (fun b2 => ?_))
  · skip
    obtain ⟨k, hk, rfl, hk2⟩ := z_nI (v := t) (n := 11) (by omega) (by omega)
    rw [nI_clamp (n := k) (by omega)] at hQ
    refine AW.if_eq 8 41 dX10_world_5 (by decide) rfl (fun h => absurd h (by decide)) (fun _ => ?_)
    refine AW.iload_n 9 dX10_world_8 rfl rfl ?_
    refine AW.i2l 10 dX10_world_9 rfl ?_
    refine AW.lconst 11 (lN 0) dX10_world_10 rfl rfl ?_
    refine AW.ldc2 14 (lN 2) dX10_world_11 qX10_180 rfl ?_
    refine AW.cSi3 17 dX10_world_14 kX10_131 (Nat.le_of_ble_eq_true rfl) rfl (C_in (Int32.toInt_toInt64 _) (z_lN (by decide)) (z_lN (by decide)) (fun b14 => ?_) (fun b14 => ?_))
    · skip
      obtain ⟨c, hc, rfl, hc2⟩ := z_nI (v := w) (n := 2) (by omega) (by omega)
      rw [nI_clamp (n := c) (by omega)] at hQ
      refine AW.if_eq 20 41 dX10_world_17 (by decide) rfl (fun h => absurd h (by decide)) (fun _ => ?_)
      refine AW.iload_n 21 dX10_world_20 rfl rfl ?_
      refine AW.i2l 22 dX10_world_21 rfl ?_
      refine AW.lconst 23 (lN 0) dX10_world_22 rfl rfl ?_
      refine AW.iload_n 24 dX10_world_23 rfl rfl ?_
      refine AW.iconst 25 (nI 1) dX10_world_24 (by decide) rfl ?_
      refine AW.icmpN_ne 28 32 dX10_world_25 (by decide) rfl (by omega) (by omega) (fun b25 => ?_) (fun b25 => ?_)
      · skip
        refine AW.ldc2 35 (lN 15) dX10_world_32 qX10_187 rfl ?_
        refine AW.cSi3 38 dX10_world_35 kX10_131 (Nat.le_of_ble_eq_true rfl) rfl (C_in (Int32.toInt_toInt64 _) (z_lN (by decide)) (z_lN (by decide)) (fun b35 => ?_) (fun b35 => ?_))
        · skip
          refine AW.if_ne 41 43 dX10_world_38 (by decide) rfl (fun _ => ?_) (fun h => absurd h (by decide))
          refine AW.iload_n 44 dX10_world_43 rfl rfl ?_
          refine AW.ifN_ne 47 56 dX10_world_44 (by decide) rfl (by omega) (fun b44 => ?_) (fun b44 => ?_)
          · skip
            refine AW.iload_n 57 dX10_world_56 rfl rfl ?_
            refine AW.iconst 58 (nI 1) dX10_world_57 (by decide) rfl ?_
            refine AW.icmpN_ne 61 70 dX10_world_58 (by decide) rfl (by omega) (by omega) (fun b58 => ?_) (fun b58 => ?_)
            · skip
              refine AW.aload_n 71 dX10_world_70 rfl rfl ?_
              refine AW.getR 74 dX10_world_71 fX10_60 rfl (zI rfl rfl) rfl rfl ?_
              refine AW.iload_n 75 dX10_world_74 rfl rfl ?_
              refine AW.iald 76 dX10_world_75 (zA rfl rfl) rfl (by omega) (by decide) rfl ?_
              refine AW.ist4 78 dX10_world_76 (by decide) rfl rfl ?_
              refine AW.iload_n 79 dX10_world_78 rfl rfl ?_
              refine AW.ifN_ne 82 92 dX10_world_79 (by decide) rfl (by omega) (fun b79 => ?_) (fun b79 => ?_)
              · skip
                refine AW.iload_n 93 dX10_world_92 rfl rfl ?_
                refine AW.iconst 94 (nI 1) dX10_world_93 (by decide) rfl ?_
                refine AW.icmpN_ne 97 107 dX10_world_94 (by decide) rfl (by omega) (by omega) (fun b94 => ?_) (fun b94 => ?_)
                · skip
                  refine AW.aload_n 108 dX10_world_107 rfl rfl ?_
                  refine AW.getR 111 dX10_world_108 fX10_60 rfl (zI rfl rfl) rfl rfl ?_
                  refine AW.iload_n 112 dX10_world_111 rfl rfl ?_
                  refine AW.iload_n 113 dX10_world_112 rfl rfl ?_
                  refine AW.iast 114 dX10_world_113 (zA rfl rfl) rfl (by omega) (by decide) rfl ?_
                  refine AW.iload 116 dX10_world_114 rfl rfl ?_
                  refine AW.iret dX10_world_116 .int rfl rfl rfl ⟨_, rfl, ?_⟩
                  (repeat' split at hQ) <;> first | (exfalso; omega; done) | (rcases (show c = 0 ∨ c = 1 ∨ c = 2 by omega) with rfl | rfl | rfl <;> first | exact hQ | (exfalso; omega))
                · skip
                  refine AW.aload_n 98 dX10_world_97 rfl rfl ?_
                  refine AW.getR 101 dX10_world_98 fX10_57 rfl (zI rfl rfl) rfl rfl ?_
                  refine AW.iload_n 102 dX10_world_101 rfl rfl ?_
                  refine AW.iload_n 103 dX10_world_102 rfl rfl ?_
                  refine AW.iast 104 dX10_world_103 (zA rfl rfl) rfl (by omega) (by decide) rfl ?_
                  refine AW.goto 114 dX10_world_104 (by decide) ?_
                  refine AW.iload 116 dX10_world_114 rfl rfl ?_
                  refine AW.iret dX10_world_116 .int rfl rfl rfl ⟨_, rfl, ?_⟩
                  (repeat' split at hQ) <;> first | (exfalso; omega; done) | (rcases (show c = 0 ∨ c = 1 ∨ c = 2 by omega) with rfl | rfl | rfl <;> first | exact hQ | (exfalso; omega))
              · skip
                refine AW.aload_n 83 dX10_world_82 rfl rfl ?_
                refine AW.getR 86 dX10_world_83 fX10_54 rfl (zI rfl rfl) rfl rfl ?_
                refine AW.iload_n 87 dX10_world_86 rfl rfl ?_
                refine AW.iload_n 88 dX10_world_87 rfl rfl ?_
                refine AW.iast 89 dX10_world_88 (zA rfl rfl) rfl (by omega) (by decide) rfl ?_
                refine AW.goto 114 dX10_world_89 (by decide) ?_
                refine AW.iload 116 dX10_world_114 rfl rfl ?_
                refine AW.iret dX10_world_116 .int rfl rfl rfl ⟨_, rfl, ?_⟩
                (repeat' split at hQ) <;> first | (exfalso; omega; done) | (rcases (show c = 0 ∨ c = 1 ∨ c = 2 by omega) with rfl | rfl | rfl <;> first | exact hQ | (exfalso; omega))
            · skip
              refine AW.aload_n 62 dX10_world_61 rfl rfl ?_
              refine AW.getR 65 dX10_world_62 fX10_57 rfl (zI rfl rfl) rfl rfl ?_
              refine AW.iload_n 66 dX10_world_65 rfl rfl ?_
              refine AW.iald 67 dX10_world_66 (zA rfl rfl) rfl (by omega) (by decide) rfl ?_
              refine AW.goto 76 dX10_world_67 (by decide) ?_
              refine AW.ist4 78 dX10_world_76 (by decide) rfl rfl ?_
              refine AW.iload_n 79 dX10_world_78 rfl rfl ?_
              refine AW.ifN_ne 82 92 dX10_world_79 (by decide) rfl (by omega) (fun b79 => ?_) (fun b79 => ?_)
              · skip
                refine AW.iload_n 93 dX10_world_92 rfl rfl ?_
                refine AW.iconst 94 (nI 1) dX10_world_93 (by decide) rfl ?_
                refine AW.icmpN_ne 97 107 dX10_world_94 (by decide) rfl (by omega) (by omega) (fun b94 => ?_) (fun b94 => ?_)
                · skip
                  refine AW.aload_n 108 dX10_world_107 rfl rfl ?_
                  refine AW.getR 111 dX10_world_108 fX10_60 rfl (zI rfl rfl) rfl rfl ?_
                  refine AW.iload_n 112 dX10_world_111 rfl rfl ?_
                  refine AW.iload_n 113 dX10_world_112 rfl rfl ?_
                  refine AW.iast 114 dX10_world_113 (zA rfl rfl) rfl (by omega) (by decide) rfl ?_
                  refine AW.iload 116 dX10_world_114 rfl rfl ?_
                  refine AW.iret dX10_world_116 .int rfl rfl rfl ⟨_, rfl, ?_⟩
                  (repeat' split at hQ) <;> first | (exfalso; omega; done) | (rcases (show c = 0 ∨ c = 1 ∨ c = 2 by omega) with rfl | rfl | rfl <;> first | exact hQ | (exfalso; omega))
                · skip
                  refine AW.aload_n 98 dX10_world_97 rfl rfl ?_
                  refine AW.getR 101 dX10_world_98 fX10_57 rfl (zI rfl rfl) rfl rfl ?_
                  refine AW.iload_n 102 dX10_world_101 rfl rfl ?_
                  refine AW.iload_n 103 dX10_world_102 rfl rfl ?_
                  refine AW.iast 104 dX10_world_103 (zA rfl rfl) rfl (by omega) (by decide) rfl ?_
                  refine AW.goto 114 dX10_world_104 (by decide) ?_
                  refine AW.iload 116 dX10_world_114 rfl rfl ?_
                  refine AW.iret dX10_world_116 .int rfl rfl rfl ⟨_, rfl, ?_⟩
                  (repeat' split at hQ) <;> first | (exfalso; omega; done) | (rcases (show c = 0 ∨ c = 1 ∨ c = 2 by omega) with rfl | rfl | rfl <;> first | exact hQ | (exfalso; omega))
              · skip
                refine AW.aload_n 83 dX10_world_82 rfl rfl ?_
                refine AW.getR 86 dX10_world_83 fX10_54 rfl (zI rfl rfl) rfl rfl ?_
                refine AW.iload_n 87 dX10_world_86 rfl rfl ?_
                refine AW.iload_n 88 dX10_world_87 rfl rfl ?_
                refine AW.iast 89 dX10_world_88 (zA rfl rfl) rfl (by omega) (by decide) rfl ?_
                refine AW.goto 114 dX10_world_89 (by decide) ?_
                refine AW.iload 116 dX10_world_114 rfl rfl ?_
                refine AW.iret dX10_world_116 .int rfl rfl rfl ⟨_, rfl, ?_⟩
                (repeat' split at hQ) <;> first | (exfalso; omega; done) | (rcases (show c = 0 ∨ c = 1 ∨ c = 2 by omega) with rfl | rfl | rfl <;> first | exact hQ | (exfalso; omega))
          · skip
            refine AW.aload_n 48 dX10_world_47 rfl rfl ?_
            refine AW.getR 51 dX10_world_48 fX10_54 rfl (zI rfl rfl) rfl rfl ?_
            refine AW.iload_n 52 dX10_world_51 rfl rfl ?_
            refine AW.iald 53 dX10_world_52 (zA rfl rfl) rfl (by omega) (by decide) rfl ?_
            refine AW.goto 76 dX10_world_53 (by decide) ?_
            refine AW.ist4 78 dX10_world_76 (by decide) rfl rfl ?_
            refine AW.iload_n 79 dX10_world_78 rfl rfl ?_
            refine AW.ifN_ne 82 92 dX10_world_79 (by decide) rfl (by omega) (fun b79 => ?_) (fun b79 => ?_)
            · skip
              refine AW.iload_n 93 dX10_world_92 rfl rfl ?_
              refine AW.iconst 94 (nI 1) dX10_world_93 (by decide) rfl ?_
              refine AW.icmpN_ne 97 107 dX10_world_94 (by decide) rfl (by omega) (by omega) (fun b94 => ?_) (fun b94 => ?_)
              · skip
                refine AW.aload_n 108 dX10_world_107 rfl rfl ?_
                refine AW.getR 111 dX10_world_108 fX10_60 rfl (zI rfl rfl) rfl rfl ?_
                refine AW.iload_n 112 dX10_world_111 rfl rfl ?_
                refine AW.iload_n 113 dX10_world_112 rfl rfl ?_
                refine AW.iast 114 dX10_world_113 (zA rfl rfl) rfl (by omega) (by decide) rfl ?_
                refine AW.iload 116 dX10_world_114 rfl rfl ?_
                refine AW.iret dX10_world_116 .int rfl rfl rfl ⟨_, rfl, ?_⟩
                (repeat' split at hQ) <;> first | (exfalso; omega; done) | (rcases (show c = 0 ∨ c = 1 ∨ c = 2 by omega) with rfl | rfl | rfl <;> first | exact hQ | (exfalso; omega))
              · skip
                refine AW.aload_n 98 dX10_world_97 rfl rfl ?_
                refine AW.getR 101 dX10_world_98 fX10_57 rfl (zI rfl rfl) rfl rfl ?_
                refine AW.iload_n 102 dX10_world_101 rfl rfl ?_
                refine AW.iload_n 103 dX10_world_102 rfl rfl ?_
                refine AW.iast 104 dX10_world_103 (zA rfl rfl) rfl (by omega) (by decide) rfl ?_
                refine AW.goto 114 dX10_world_104 (by decide) ?_
                refine AW.iload 116 dX10_world_114 rfl rfl ?_
                refine AW.iret dX10_world_116 .int rfl rfl rfl ⟨_, rfl, ?_⟩
                (repeat' split at hQ) <;> first | (exfalso; omega; done) | (rcases (show c = 0 ∨ c = 1 ∨ c = 2 by omega) with rfl | rfl | rfl <;> first | exact hQ | (exfalso; omega))
            · skip
              refine AW.aload_n 83 dX10_world_82 rfl rfl ?_
              refine AW.getR 86 dX10_world_83 fX10_54 rfl (zI rfl rfl) rfl rfl ?_
              refine AW.iload_n 87 dX10_world_86 rfl rfl ?_
              refine AW.iload_n 88 dX10_world_87 rfl rfl ?_
              refine AW.iast 89 dX10_world_88 (zA rfl rfl) rfl (by omega) (by decide) rfl ?_
              refine AW.goto 114 dX10_world_89 (by decide) ?_
              refine AW.iload 116 dX10_world_114 rfl rfl ?_
              refine AW.iret dX10_world_116 .int rfl rfl rfl ⟨_, rfl, ?_⟩
              (repeat' split at hQ) <;> first | (exfalso; omega; done) | (rcases (show c = 0 ∨ c = 1 ∨ c = 2 by omega) with rfl | rfl | rfl <;> first | exact hQ | (exfalso; omega))
        · skip
          refine AW.if_ne 41 43 dX10_world_38 (by decide) rfl (fun h => absurd h (by decide)) (fun _ => ?_)
          refine AW.iconst 42 (-1) dX10_world_41 (by decide) rfl ?_
          refine AW.iret dX10_world_42 .int rfl rfl rfl ⟨_, rfl, ?_⟩
          (repeat' split at hQ) <;> first | exact hQ | (exfalso; omega)
      · skip
        refine AW.lconst 29 (lN 1) dX10_world_28 rfl rfl ?_
        refine AW.goto 35 dX10_world_29 (by decide) ?_
        refine AW.cSi3 38 dX10_world_35 kX10_131 (Nat.le_of_ble_eq_true rfl) rfl (C_in (Int32.toInt_toInt64 _) (z_lN (by decide)) (z_lN (by decide)) (fun b35 => ?_) (fun b35 => ?_))
        · skip
          refine AW.if_ne 41 43 dX10_world_38 (by decide) rfl (fun _ => ?_) (fun h => absurd h (by decide))
          refine AW.iload_n 44 dX10_world_43 rfl rfl ?_
          refine AW.ifN_ne 47 56 dX10_world_44 (by decide) rfl (by omega) (fun b44 => ?_) (fun b44 => ?_)
          · skip
            refine AW.iload_n 57 dX10_world_56 rfl rfl ?_
            refine AW.iconst 58 (nI 1) dX10_world_57 (by decide) rfl ?_
            refine AW.icmpN_ne 61 70 dX10_world_58 (by decide) rfl (by omega) (by omega) (fun b58 => ?_) (fun b58 => ?_)
            · skip
              refine AW.aload_n 71 dX10_world_70 rfl rfl ?_
              refine AW.getR 74 dX10_world_71 fX10_60 rfl (zI rfl rfl) rfl rfl ?_
              refine AW.iload_n 75 dX10_world_74 rfl rfl ?_
              refine AW.iald 76 dX10_world_75 (zA rfl rfl) rfl (by omega) (by decide) rfl ?_
              refine AW.ist4 78 dX10_world_76 (by decide) rfl rfl ?_
              refine AW.iload_n 79 dX10_world_78 rfl rfl ?_
              refine AW.ifN_ne 82 92 dX10_world_79 (by decide) rfl (by omega) (fun b79 => ?_) (fun b79 => ?_)
              · skip
                refine AW.iload_n 93 dX10_world_92 rfl rfl ?_
                refine AW.iconst 94 (nI 1) dX10_world_93 (by decide) rfl ?_
                refine AW.icmpN_ne 97 107 dX10_world_94 (by decide) rfl (by omega) (by omega) (fun b94 => ?_) (fun b94 => ?_)
                · skip
                  refine AW.aload_n 108 dX10_world_107 rfl rfl ?_
                  refine AW.getR 111 dX10_world_108 fX10_60 rfl (zI rfl rfl) rfl rfl ?_
                  refine AW.iload_n 112 dX10_world_111 rfl rfl ?_
                  refine AW.iload_n 113 dX10_world_112 rfl rfl ?_
                  refine AW.iast 114 dX10_world_113 (zA rfl rfl) rfl (by omega) (by decide) rfl ?_
                  refine AW.iload 116 dX10_world_114 rfl rfl ?_
                  refine AW.iret dX10_world_116 .int rfl rfl rfl ⟨_, rfl, ?_⟩
                  (repeat' split at hQ) <;> first | (exfalso; omega; done) | (rcases (show c = 0 ∨ c = 1 ∨ c = 2 by omega) with rfl | rfl | rfl <;> first | exact hQ | (exfalso; omega))
                · skip
                  refine AW.aload_n 98 dX10_world_97 rfl rfl ?_
                  refine AW.getR 101 dX10_world_98 fX10_57 rfl (zI rfl rfl) rfl rfl ?_
                  refine AW.iload_n 102 dX10_world_101 rfl rfl ?_
                  refine AW.iload_n 103 dX10_world_102 rfl rfl ?_
                  refine AW.iast 104 dX10_world_103 (zA rfl rfl) rfl (by omega) (by decide) rfl ?_
                  refine AW.goto 114 dX10_world_104 (by decide) ?_
                  refine AW.iload 116 dX10_world_114 rfl rfl ?_
                  refine AW.iret dX10_world_116 .int rfl rfl rfl ⟨_, rfl, ?_⟩
                  (repeat' split at hQ) <;> first | (exfalso; omega; done) | (rcases (show c = 0 ∨ c = 1 ∨ c = 2 by omega) with rfl | rfl | rfl <;> first | exact hQ | (exfalso; omega))
              · skip
                refine AW.aload_n 83 dX10_world_82 rfl rfl ?_
                refine AW.getR 86 dX10_world_83 fX10_54 rfl (zI rfl rfl) rfl rfl ?_
                refine AW.iload_n 87 dX10_world_86 rfl rfl ?_
                refine AW.iload_n 88 dX10_world_87 rfl rfl ?_
                refine AW.iast 89 dX10_world_88 (zA rfl rfl) rfl (by omega) (by decide) rfl ?_
                refine AW.goto 114 dX10_world_89 (by decide) ?_
                refine AW.iload 116 dX10_world_114 rfl rfl ?_
                refine AW.iret dX10_world_116 .int rfl rfl rfl ⟨_, rfl, ?_⟩
                (repeat' split at hQ) <;> first | (exfalso; omega; done) | (rcases (show c = 0 ∨ c = 1 ∨ c = 2 by omega) with rfl | rfl | rfl <;> first | exact hQ | (exfalso; omega))
            · skip
              refine AW.aload_n 62 dX10_world_61 rfl rfl ?_
              refine AW.getR 65 dX10_world_62 fX10_57 rfl (zI rfl rfl) rfl rfl ?_
              refine AW.iload_n 66 dX10_world_65 rfl rfl ?_
              refine AW.iald 67 dX10_world_66 (zA rfl rfl) rfl (by omega) (by decide) rfl ?_
              refine AW.goto 76 dX10_world_67 (by decide) ?_
              refine AW.ist4 78 dX10_world_76 (by decide) rfl rfl ?_
              refine AW.iload_n 79 dX10_world_78 rfl rfl ?_
              refine AW.ifN_ne 82 92 dX10_world_79 (by decide) rfl (by omega) (fun b79 => ?_) (fun b79 => ?_)
              · skip
                refine AW.iload_n 93 dX10_world_92 rfl rfl ?_
                refine AW.iconst 94 (nI 1) dX10_world_93 (by decide) rfl ?_
                refine AW.icmpN_ne 97 107 dX10_world_94 (by decide) rfl (by omega) (by omega) (fun b94 => ?_) (fun b94 => ?_)
                · skip
                  refine AW.aload_n 108 dX10_world_107 rfl rfl ?_
                  refine AW.getR 111 dX10_world_108 fX10_60 rfl (zI rfl rfl) rfl rfl ?_
                  refine AW.iload_n 112 dX10_world_111 rfl rfl ?_
                  refine AW.iload_n 113 dX10_world_112 rfl rfl ?_
                  refine AW.iast 114 dX10_world_113 (zA rfl rfl) rfl (by omega) (by decide) rfl ?_
                  refine AW.iload 116 dX10_world_114 rfl rfl ?_
                  refine AW.iret dX10_world_116 .int rfl rfl rfl ⟨_, rfl, ?_⟩
                  (repeat' split at hQ) <;> first | (exfalso; omega; done) | (rcases (show c = 0 ∨ c = 1 ∨ c = 2 by omega) with rfl | rfl | rfl <;> first | exact hQ | (exfalso; omega))
                · skip
                  refine AW.aload_n 98 dX10_world_97 rfl rfl ?_
                  refine AW.getR 101 dX10_world_98 fX10_57 rfl (zI rfl rfl) rfl rfl ?_
                  refine AW.iload_n 102 dX10_world_101 rfl rfl ?_
                  refine AW.iload_n 103 dX10_world_102 rfl rfl ?_
                  refine AW.iast 104 dX10_world_103 (zA rfl rfl) rfl (by omega) (by decide) rfl ?_
                  refine AW.goto 114 dX10_world_104 (by decide) ?_
                  refine AW.iload 116 dX10_world_114 rfl rfl ?_
                  refine AW.iret dX10_world_116 .int rfl rfl rfl ⟨_, rfl, ?_⟩
                  (repeat' split at hQ) <;> first | (exfalso; omega; done) | (rcases (show c = 0 ∨ c = 1 ∨ c = 2 by omega) with rfl | rfl | rfl <;> first | exact hQ | (exfalso; omega))
              · skip
                refine AW.aload_n 83 dX10_world_82 rfl rfl ?_
                refine AW.getR 86 dX10_world_83 fX10_54 rfl (zI rfl rfl) rfl rfl ?_
                refine AW.iload_n 87 dX10_world_86 rfl rfl ?_
                refine AW.iload_n 88 dX10_world_87 rfl rfl ?_
                refine AW.iast 89 dX10_world_88 (zA rfl rfl) rfl (by omega) (by decide) rfl ?_
                refine AW.goto 114 dX10_world_89 (by decide) ?_
                refine AW.iload 116 dX10_world_114 rfl rfl ?_
                refine AW.iret dX10_world_116 .int rfl rfl rfl ⟨_, rfl, ?_⟩
                (repeat' split at hQ) <;> first | (exfalso; omega; done) | (rcases (show c = 0 ∨ c = 1 ∨ c = 2 by omega) with rfl | rfl | rfl <;> first | exact hQ | (exfalso; omega))
          · skip
            refine AW.aload_n 48 dX10_world_47 rfl rfl ?_
            refine AW.getR 51 dX10_world_48 fX10_54 rfl (zI rfl rfl) rfl rfl ?_
            refine AW.iload_n 52 dX10_world_51 rfl rfl ?_
            refine AW.iald 53 dX10_world_52 (zA rfl rfl) rfl (by omega) (by decide) rfl ?_
            refine AW.goto 76 dX10_world_53 (by decide) ?_
            refine AW.ist4 78 dX10_world_76 (by decide) rfl rfl ?_
            refine AW.iload_n 79 dX10_world_78 rfl rfl ?_
            refine AW.ifN_ne 82 92 dX10_world_79 (by decide) rfl (by omega) (fun b79 => ?_) (fun b79 => ?_)
            · skip
              refine AW.iload_n 93 dX10_world_92 rfl rfl ?_
              refine AW.iconst 94 (nI 1) dX10_world_93 (by decide) rfl ?_
              refine AW.icmpN_ne 97 107 dX10_world_94 (by decide) rfl (by omega) (by omega) (fun b94 => ?_) (fun b94 => ?_)
              · skip
                refine AW.aload_n 108 dX10_world_107 rfl rfl ?_
                refine AW.getR 111 dX10_world_108 fX10_60 rfl (zI rfl rfl) rfl rfl ?_
                refine AW.iload_n 112 dX10_world_111 rfl rfl ?_
                refine AW.iload_n 113 dX10_world_112 rfl rfl ?_
                refine AW.iast 114 dX10_world_113 (zA rfl rfl) rfl (by omega) (by decide) rfl ?_
                refine AW.iload 116 dX10_world_114 rfl rfl ?_
                refine AW.iret dX10_world_116 .int rfl rfl rfl ⟨_, rfl, ?_⟩
                (repeat' split at hQ) <;> first | (exfalso; omega; done) | (rcases (show c = 0 ∨ c = 1 ∨ c = 2 by omega) with rfl | rfl | rfl <;> first | exact hQ | (exfalso; omega))
              · skip
                refine AW.aload_n 98 dX10_world_97 rfl rfl ?_
                refine AW.getR 101 dX10_world_98 fX10_57 rfl (zI rfl rfl) rfl rfl ?_
                refine AW.iload_n 102 dX10_world_101 rfl rfl ?_
                refine AW.iload_n 103 dX10_world_102 rfl rfl ?_
                refine AW.iast 104 dX10_world_103 (zA rfl rfl) rfl (by omega) (by decide) rfl ?_
                refine AW.goto 114 dX10_world_104 (by decide) ?_
                refine AW.iload 116 dX10_world_114 rfl rfl ?_
                refine AW.iret dX10_world_116 .int rfl rfl rfl ⟨_, rfl, ?_⟩
                (repeat' split at hQ) <;> first | (exfalso; omega; done) | (rcases (show c = 0 ∨ c = 1 ∨ c = 2 by omega) with rfl | rfl | rfl <;> first | exact hQ | (exfalso; omega))
            · skip
              refine AW.aload_n 83 dX10_world_82 rfl rfl ?_
              refine AW.getR 86 dX10_world_83 fX10_54 rfl (zI rfl rfl) rfl rfl ?_
              refine AW.iload_n 87 dX10_world_86 rfl rfl ?_
              refine AW.iload_n 88 dX10_world_87 rfl rfl ?_
              refine AW.iast 89 dX10_world_88 (zA rfl rfl) rfl (by omega) (by decide) rfl ?_
              refine AW.goto 114 dX10_world_89 (by decide) ?_
              refine AW.iload 116 dX10_world_114 rfl rfl ?_
              refine AW.iret dX10_world_116 .int rfl rfl rfl ⟨_, rfl, ?_⟩
              (repeat' split at hQ) <;> first | (exfalso; omega; done) | (rcases (show c = 0 ∨ c = 1 ∨ c = 2 by omega) with rfl | rfl | rfl <;> first | exact hQ | (exfalso; omega))
        · skip
          refine AW.if_ne 41 43 dX10_world_38 (by decide) rfl (fun h => absurd h (by decide)) (fun _ => ?_)
          refine AW.iconst 42 (-1) dX10_world_41 (by decide) rfl ?_
          refine AW.iret dX10_world_42 .int rfl rfl rfl ⟨_, rfl, ?_⟩
          (repeat' split at hQ) <;> first | exact hQ | (exfalso; omega)
    · skip
      refine AW.if_eq 20 41 dX10_world_17 (by decide) rfl (fun _ => ?_) (fun h => absurd h (by decide))
      refine AW.iconst 42 (-1) dX10_world_41 (by decide) rfl ?_
      refine AW.iret dX10_world_42 .int rfl rfl rfl ⟨_, rfl, ?_⟩
      (repeat' split at hQ) <;> first | exact hQ | (exfalso; omega)
  · skip
    refine AW.if_eq 8 41 dX10_world_5 (by decide) rfl (fun _ => ?_) (fun h => absurd h (by decide))
    refine AW.iconst 42 (-1) dX10_world_41 (by decide) rfl ?_
    refine AW.iret dX10_world_42 .int rfl rfl rfl ⟨_, rfl, ?_⟩
    (repeat' split at hQ) <;> first | exact hQ | (exfalso; omega)
theorem L1_X10_sights (hT : M 99 16 = nI T) (hT2 : T ≤ 12) {k a : Nat} (hk : k < 4) (ha : a + T ≤ 48) {w lane : Int32} {Q : Int32 → zS → zM → Prop} (hbad : ¬ (∀ t, t < T → 0 ≤ (M 135 (48 * k + a + t)).toInt ∧ (M 135 (48 * k + a + t)).toInt ≤ 15) → Q (-2) (ZS m0 m1 md) M) (hQ : (∀ t, t < T → 0 ≤ (M 135 (48 * k + a + t)).toInt ∧ (M 135 (48 * k + a + t)).toInt ≤ 15) → AW l g RX10 cX10_sights 6 (some .int) false (d + 1) 0 0 88 [some (.ref 99), some (.int (nI k)), some (.int lane), some (.int (nI a)), some (.int w), some (.int (nI T))] [] (ZS m0 m1 md) M (z_Qi Q)) :
    ∀ (q i : Nat), i + q = T → (∀ t, t < i → 0 ≤ (M 135 (48 * k + a + t)).toInt ∧ (M 135 (48 * k + a + t)).toInt ≤ 15) → AW l g RX10 cX10_sights 6 (some .int) false (d + 1) 0 0 45 [some (.ref 99), some (.int (nI k)), some (.int lane), some (.int (nI a)), some (.int w), some (.int (nI i))] [] (ZS m0 m1 md) M (z_Qi Q) := by
  intro q
  induction q with
  | zero =>
    intro i hi hg
    have hi : i = T := by omega
    subst hi
    refine AW.iload 47 dX10_sights_45 rfl rfl ?_
    refine AW.aload_n 48 dX10_sights_47 rfl rfl ?_
    refine AW.getI 51 dX10_sights_48 fX10_50 rfl (zI rfl rfl) rfl ?_
    refine AW.topi (nI i) hT ?_
    refine AW.icmpN_ge 54 88 dX10_sights_51 (by decide) rfl (by omega) (by omega) (fun b51 => ?_) (fun b51 => absurd b51 (by omega))
    exact hQ hg
  | succ q ih =>
    intro i hi hg
    refine AW.iload 47 dX10_sights_45 rfl rfl ?_
    refine AW.aload_n 48 dX10_sights_47 rfl rfl ?_
    refine AW.getI 51 dX10_sights_48 fX10_50 rfl (zI rfl rfl) rfl ?_
    refine AW.topi (nI T) hT ?_
    refine AW.icmpN_ge 54 88 dX10_sights_51 (by decide) rfl (by omega) (by omega) (fun b51 => absurd b51 (by omega)) (fun b51 => ?_)
    refine AW.aload_n 55 dX10_sights_54 rfl rfl ?_
    refine AW.getR 58 dX10_sights_55 fX10_123 rfl (zI rfl rfl) rfl rfl ?_
    refine AW.bipush 60 (nI 48) dX10_sights_58 (by decide) rfl ?_
    refine AW.iload_n 61 dX10_sights_60 rfl rfl ?_
    refine AW.imulN 62 dX10_sights_61 rfl ?_
    refine AW.iload_n 63 dX10_sights_62 rfl rfl ?_
    refine AW.iaddN 64 dX10_sights_63 rfl ?_
    refine AW.iload 66 dX10_sights_64 rfl rfl ?_
    refine AW.iaddN 67 dX10_sights_66 rfl ?_
    refine AW.iald 68 dX10_sights_67 (zA rfl rfl) rfl (by omega) (by decide) rfl ?_
    refine AW.i2l 69 dX10_sights_68 rfl ?_
    refine AW.lconst 70 (lN 0) dX10_sights_69 rfl rfl ?_
    refine AW.ldc2 73 (lN 15) dX10_sights_70 qX10_187 rfl ?_
    refine AW.cSi3 76 dX10_sights_73 kX10_131 (Nat.le_of_ble_eq_true rfl) rfl (C_in (Int32.toInt_toInt64 _) (z_lN (by decide)) (z_lN (by decide)) (fun b73 => ?_) (fun b73 => ?_))
    · skip
      refine AW.if_ne 79 82 dX10_sights_76 (by decide) rfl (fun _ => ?_) (fun h => absurd h (by decide))
      refine AW.iinc5 85 _ dX10_sights_82 (z_inc1 _) (by decide) rfl rfl ?_
      refine AW.goto 45 dX10_sights_85 (by decide) ?_
      exact ih (i + 1) (by omega) (fun t ht => by
        rcases Nat.lt_or_ge t i with h | h
        · exact hg t h
        · have : t = i := by omega
          subst this; omega)
    · skip
      refine AW.if_ne 79 82 dX10_sights_76 (by decide) rfl (fun h => absurd h (by decide)) (fun _ => ?_)
      refine AW.bipush 81 (-2) dX10_sights_79 (by decide) rfl ?_
      refine AW.iret dX10_sights_81 .int rfl rfl rfl ⟨_, rfl, ?_⟩
      exact hbad (fun h => b73 (by have := h i (by omega); omega))
theorem L2_X10_sights (hT : M 99 16 = nI T) (hT2 : T ≤ 12) {k a : Nat} (hk : k < 4) (ha : a + T ≤ 48) {w lane : Int32} {Q : Int32 → zS → zM → Prop} (hQ : Q (nI T) (ZS m0 m1 md) (z_row M 113 (va_cpy (M 135) (M 113) (48 * k + a) 0 T))) :
    ∀ (q i : Nat), i + q = T → AW l g RX10 cX10_sights 6 (some .int) false d 0 0 91 [some (.ref 99), some (.int (nI k)), some (.int lane), some (.int (nI a)), some (.int w), some (.int (nI i))] [] (ZS m0 m1 md) (z_row M 113 (va_cpy (M 135) (M 113) (48 * k + a) 0 i)) (z_Qi Q) := by
  intro q
  induction q with
  | zero =>
    intro i hi
    have hi : i = T := by omega
    subst hi
    refine AW.iload 93 dX10_sights_91 rfl rfl ?_
    refine AW.aload_n 94 dX10_sights_93 rfl rfl ?_
    refine AW.getI 97 dX10_sights_94 fX10_50 rfl (zI rfl rfl) rfl ?_
    refine AW.topi (nI i) hT ?_
    refine AW.icmpN_ge 100 127 dX10_sights_97 (by decide) rfl (by omega) (by omega) (fun b97 => ?_) (fun b97 => absurd b97 (by omega))
    refine AW.aload_n 128 dX10_sights_127 rfl rfl ?_
    refine AW.getI 131 dX10_sights_128 fX10_50 rfl (zI rfl rfl) rfl ?_
    refine AW.topi (nI i) hT ?_
    refine AW.iret dX10_sights_131 .int rfl rfl rfl ⟨_, rfl, ?_⟩
    exact hQ
  | succ q ih =>
    intro i hi
    refine AW.iload 93 dX10_sights_91 rfl rfl ?_
    refine AW.aload_n 94 dX10_sights_93 rfl rfl ?_
    refine AW.getI 97 dX10_sights_94 fX10_50 rfl (zI rfl rfl) rfl ?_
    refine AW.topi (nI T) hT ?_
    refine AW.icmpN_ge 100 127 dX10_sights_97 (by decide) rfl (by omega) (by omega) (fun b97 => absurd b97 (by omega)) (fun b97 => ?_)
    refine AW.aload_n 101 dX10_sights_100 rfl rfl ?_
    refine AW.getR 104 dX10_sights_101 fX10_54 rfl (zI rfl rfl) rfl rfl ?_
    refine AW.iload 106 dX10_sights_104 rfl rfl ?_
    refine AW.aload_n 107 dX10_sights_106 rfl rfl ?_
    refine AW.getR 110 dX10_sights_107 fX10_123 rfl (zI rfl rfl) rfl rfl ?_
    refine AW.bipush 112 (nI 48) dX10_sights_110 (by decide) rfl ?_
    refine AW.iload_n 113 dX10_sights_112 rfl rfl ?_
    refine AW.imulN 114 dX10_sights_113 rfl ?_
    refine AW.iload_n 115 dX10_sights_114 rfl rfl ?_
    refine AW.iaddN 116 dX10_sights_115 rfl ?_
    refine AW.iload 118 dX10_sights_116 rfl rfl ?_
    refine AW.iaddN 119 dX10_sights_118 rfl ?_
    refine AW.iald 120 dX10_sights_119 (zA rfl rfl) rfl (by omega) (by decide) rfl ?_
    rw [z_row_ne _ (by decide : (135 : Nat) ≠ 113)]
    refine AW.iast 121 dX10_sights_120 (zA rfl rfl) rfl (by omega) (by decide) rfl ?_
    rw [z_st_row, z_cpy_s (M 135) (M 113) (48 * k + a) 0 i i (by omega)]
    refine AW.iinc5 124 _ dX10_sights_121 (z_inc1 _) (by decide) rfl rfl ?_
    refine AW.goto 91 dX10_sights_124 (by decide) ?_
    exact ih (i + 1) (by omega)
theorem C_X10_sights (hT : M 99 16 = nI T) (hT1 : 1 ≤ T) (hT2 : T ≤ 12) (hz : ∀ k, k < 4 → (M 134 k).toInt ≤ 48) {s lane i : Int32} {Q : Int32 → zS → zM → Prop} (hQ : Q (g_sights M s lane i).1 (ZS m0 m1 md) (g_sights M s lane i).2) : AMet l g yX10_sights cX10_sights 6 (some .int) (d + 2) 0 0 [.ref 99, .int s, .int lane, .int i] (ZS m0 m1 md) M (z_Qi Q) := by
  unfold g_sights at hQ
  rw [hT, nI_clamp (n := T) (by omega)] at hQ
  refine AMet.of (ini := false) rfl (fun h => by first | rfl | cases h) (Nat.le_of_ble_eq_true rfl) ?_
  show AW l g RX10 cX10_sights 6 (some .int) false _ _ _ 0 [some (.ref 99), some (.int s), some (.int lane), some (.int i), none, none] [] _ _ _
  refine AW.iload_n 1 dX10_sights_0 rfl rfl ?_
  refine AW.cSi1 4 dX10_sights_1 kX10_189 (Nat.le_of_ble_eq_true rfl) rfl (C_X10_isSheet (fun b1 => ?_) (fun b1 => ?_))
  · skip
    obtain ⟨k, hk, rfl, hk2⟩ := z_nI b1.1 b1.2
    rw [nI_clamp (n := k) (by omega)] at hQ
    refine AW.if_eq 7 19 dX10_sights_4 (by decide) rfl (fun h => absurd h (by decide)) (fun _ => ?_)
    refine AW.iload_n 8 dX10_sights_7 rfl rfl ?_
    refine AW.i2l 9 dX10_sights_8 rfl ?_
    refine AW.lconst 10 (lN 1) dX10_sights_9 rfl rfl ?_
    refine AW.ldc2 13 (lN 2) dX10_sights_10 qX10_180 rfl ?_
    refine AW.cSi3 16 dX10_sights_13 kX10_131 (Nat.le_of_ble_eq_true rfl) rfl (C_in (Int32.toInt_toInt64 _) (z_lN (by decide)) (z_lN (by decide)) (fun b13 => ?_) (fun b13 => ?_))
    · skip
      refine AW.if_ne 19 21 dX10_sights_16 (by decide) rfl (fun _ => ?_) (fun h => absurd h (by decide))
      refine AW.aload_n 22 dX10_sights_21 rfl rfl ?_
      refine AW.iload_n 23 dX10_sights_22 rfl rfl ?_
      refine AW.iload_n 24 dX10_sights_23 rfl rfl ?_
      refine AW.iload_n 25 dX10_sights_24 rfl rfl ?_
      refine AW.aload_n 26 dX10_sights_25 rfl rfl ?_
      refine AW.getI 29 dX10_sights_26 fX10_50 rfl (zI rfl rfl) rfl ?_
      refine AW.topi (nI T) hT ?_
      refine AW.cVi4 32 dX10_sights_29 kX10_192 (zI rfl rfl) (Nat.le_of_ble_eq_true rfl) rfl (C_X10_finds (by omega) ?_)
      refine AW.ist4 34 dX10_sights_32 (by decide) rfl rfl ?_
      refine AW.iload 36 dX10_sights_34 rfl rfl ?_
      refine AW.zif_ge 39 42 dX10_sights_36 (by decide) rfl rfl (fun b36 => ?_) (fun b36 => ?_)
      · skip
        have e1 := g_finds_ok b36
        have e2 := hz k (by omega)
        rw [z_ti (n := T) (by omega)] at e1
        obtain ⟨a, ha, rfl, ha2⟩ := z_nI (v := i) (n := 47) (by omega) (by omega)
        rw [if_neg (by omega), if_neg (by omega), if_neg (by omega), nI_clamp (n := a) (by omega)] at hQ
        refine AW.iconst 43 (nI 0) dX10_sights_42 (by decide) rfl ?_
        refine AW.ist5 45 dX10_sights_43 (by decide) rfl rfl ?_
        refine L1_X10_sights (T := T) hT hT2 (k := k) (a := a) (by omega) (by omega) (fun h => ?_) (fun h => ?_) T 0 (by omega) (fun t ht => absurd ht (by omega))
        · rw [if_neg h] at hQ; exact hQ
        · rw [if_pos h] at hQ
          refine AW.iconst 89 (nI 0) dX10_sights_88 (by decide) rfl ?_
          refine AW.ist5 91 dX10_sights_89 (by decide) rfl rfl ?_
          have L2 := L2_X10_sights (l := l) (g := g) (d := d + 2) (m0 := m0) (m1 := m1) (md := md) (M := M) (T := T) hT hT2 (k := k) (a := a) (w := g_finds M k lane (nI a) (nI T)) (lane := lane) (by omega) (by omega) hQ T 0 (by omega)
          rw [z_cpy_0, z_row_self] at L2
          exact L2
      · skip
        refine AW.iload 41 dX10_sights_39 rfl rfl ?_
        refine AW.iret dX10_sights_41 .int rfl rfl rfl ⟨_, rfl, ?_⟩
        (repeat' split at hQ) <;> first | exact hQ | (exfalso; omega)
    · skip
      refine AW.if_ne 19 21 dX10_sights_16 (by decide) rfl (fun h => absurd h (by decide)) (fun _ => ?_)
      refine AW.iconst 20 (-1) dX10_sights_19 (by decide) rfl ?_
      refine AW.iret dX10_sights_20 .int rfl rfl rfl ⟨_, rfl, ?_⟩
      (repeat' split at hQ) <;> first | exact hQ | (exfalso; omega)
  · skip
    refine AW.if_eq 7 19 dX10_sights_4 (by decide) rfl (fun _ => ?_) (fun h => absurd h (by decide))
    refine AW.iconst 20 (-1) dX10_sights_19 (by decide) rfl ?_
    refine AW.iret dX10_sights_20 .int rfl rfl rfl ⟨_, rfl, ?_⟩
    (repeat' split at hQ) <;> first | exact hQ | (exfalso; omega)
theorem L_X10_lots (hT : M 99 16 = nI T) (hT2 : T ≤ 12) {k a : Nat} (hk : k < 4) (ha : a + T ≤ 48) {w : Int32} {Q : Int32 → zS → zM → Prop} (hQ : Q (z_sum (fun t => M 135 (48 * k + a + t)) T) (ZS m0 m1 md) (z_row M 114 (va_cpy (M 135) (M 114) (48 * k + a) 0 T))) :
    ∀ (q i : Nat), i + q = T → AW l g RX10 cX10_lots 6 (some .int) false d 0 0 33 [some (.ref 99), some (.int (nI k)), some (.int (nI a)), some (.int w), some (.int (z_sum (fun t => M 135 (48 * k + a + t)) i)), some (.int (nI i))] [] (ZS m0 m1 md) (z_row M 114 (va_cpy (M 135) (M 114) (48 * k + a) 0 i)) (z_Qi Q) := by
  intro q
  induction q with
  | zero =>
    intro i hi
    have hi : i = T := by omega
    subst hi
    refine AW.iload 35 dX10_lots_33 rfl rfl ?_
    refine AW.aload_n 36 dX10_lots_35 rfl rfl ?_
    refine AW.getI 39 dX10_lots_36 fX10_50 rfl (zI rfl rfl) rfl ?_
    refine AW.topi (nI i) hT ?_
    refine AW.icmpN_ge 42 81 dX10_lots_39 (by decide) rfl (by omega) (by omega) (fun b39 => ?_) (fun b39 => absurd b39 (by omega))
    refine AW.iload 83 dX10_lots_81 rfl rfl ?_
    refine AW.iret dX10_lots_83 .int rfl rfl rfl ⟨_, rfl, ?_⟩
    exact hQ
  | succ q ih =>
    intro i hi
    refine AW.iload 35 dX10_lots_33 rfl rfl ?_
    refine AW.aload_n 36 dX10_lots_35 rfl rfl ?_
    refine AW.getI 39 dX10_lots_36 fX10_50 rfl (zI rfl rfl) rfl ?_
    refine AW.topi (nI T) hT ?_
    refine AW.icmpN_ge 42 81 dX10_lots_39 (by decide) rfl (by omega) (by omega) (fun b39 => absurd b39 (by omega)) (fun b39 => ?_)
    refine AW.aload_n 43 dX10_lots_42 rfl rfl ?_
    refine AW.getR 46 dX10_lots_43 fX10_57 rfl (zI rfl rfl) rfl rfl ?_
    refine AW.iload 48 dX10_lots_46 rfl rfl ?_
    refine AW.aload_n 49 dX10_lots_48 rfl rfl ?_
    refine AW.getR 52 dX10_lots_49 fX10_123 rfl (zI rfl rfl) rfl rfl ?_
    refine AW.bipush 54 (nI 48) dX10_lots_52 (by decide) rfl ?_
    refine AW.iload_n 55 dX10_lots_54 rfl rfl ?_
    refine AW.imulN 56 dX10_lots_55 rfl ?_
    refine AW.iload_n 57 dX10_lots_56 rfl rfl ?_
    refine AW.iaddN 58 dX10_lots_57 rfl ?_
    refine AW.iload 60 dX10_lots_58 rfl rfl ?_
    refine AW.iaddN 61 dX10_lots_60 rfl ?_
    refine AW.iald 62 dX10_lots_61 (zA rfl rfl) rfl (by omega) (by decide) rfl ?_
    rw [z_row_ne _ (by decide : (135 : Nat) ≠ 114)]
    refine AW.iast 63 dX10_lots_62 (zA rfl rfl) rfl (by omega) (by decide) rfl ?_
    rw [z_st_row, z_cpy_s (M 135) (M 114) (48 * k + a) 0 i i (by omega)]
    refine AW.iload 65 dX10_lots_63 rfl rfl ?_
    refine AW.aload_n 66 dX10_lots_65 rfl rfl ?_
    refine AW.getR 69 dX10_lots_66 fX10_57 rfl (zI rfl rfl) rfl rfl ?_
    refine AW.iload 71 dX10_lots_69 rfl rfl ?_
    refine AW.iald 72 dX10_lots_71 (zA rfl rfl) rfl (by omega) (by decide) rfl ?_
    refine AW.topi (M 135 (48 * k + a + i)) (by rw [z_row_at, pk_cpy_in (by omega) (by omega)]; congr 1) ?_
    refine AW.iadd 73 dX10_lots_72 rfl ?_
    refine AW.ist4 75 dX10_lots_73 (by decide) rfl rfl ?_
    refine AW.iinc5 78 _ dX10_lots_75 (z_inc1 _) (by decide) rfl rfl ?_
    refine AW.goto 33 dX10_lots_78 (by decide) ?_
    exact ih (i + 1) (by omega)
theorem C_X10_lots (hT : M 99 16 = nI T) (hT1 : 1 ≤ T) (hT2 : T ≤ 12) (hz : ∀ k, k < 4 → (M 134 k).toInt ≤ 48) {s i : Int32} {Q : Int32 → zS → zM → Prop} (hQ : Q (g_lots M s i).1 (ZS m0 m1 md) (g_lots M s i).2) : AMet l g yX10_lots cX10_lots 6 (some .int) (d + 2) 0 0 [.ref 99, .int s, .int i] (ZS m0 m1 md) M (z_Qi Q) := by
  unfold g_lots at hQ
  rw [hT, nI_clamp (n := T) (by omega)] at hQ
  refine AMet.of (ini := false) rfl (fun h => by first | rfl | cases h) (Nat.le_of_ble_eq_true rfl) ?_
  show AW l g RX10 cX10_lots 6 (some .int) false _ _ _ 0 [some (.ref 99), some (.int s), some (.int i), none, none, none] [] _ _ _
  refine AW.iload_n 1 dX10_lots_0 rfl rfl ?_
  refine AW.cSi1 4 dX10_lots_1 kX10_189 (Nat.le_of_ble_eq_true rfl) rfl (C_X10_isSheet (fun b1 => ?_) (fun b1 => ?_))
  · skip
    obtain ⟨k, hk, rfl, hk2⟩ := z_nI b1.1 b1.2
    rw [nI_clamp (n := k) (by omega)] at hQ
    refine AW.if_ne 7 9 dX10_lots_4 (by decide) rfl (fun _ => ?_) (fun h => absurd h (by decide))
    refine AW.aload_n 10 dX10_lots_9 rfl rfl ?_
    refine AW.iload_n 11 dX10_lots_10 rfl rfl ?_
    refine AW.iconst 12 (nI 0) dX10_lots_11 (by decide) rfl ?_
    refine AW.iload_n 13 dX10_lots_12 rfl rfl ?_
    refine AW.aload_n 14 dX10_lots_13 rfl rfl ?_
    refine AW.getI 17 dX10_lots_14 fX10_50 rfl (zI rfl rfl) rfl ?_
    refine AW.topi (nI T) hT ?_
    refine AW.cVi4 20 dX10_lots_17 kX10_192 (zI rfl rfl) (Nat.le_of_ble_eq_true rfl) rfl (C_X10_finds (by omega) ?_)
    refine AW.istn3 21 dX10_lots_20 (by decide) rfl rfl ?_
    refine AW.iload_n 22 dX10_lots_21 rfl rfl ?_
    refine AW.zif_ge 25 27 dX10_lots_22 (by decide) rfl rfl (fun b22 => ?_) (fun b22 => ?_)
    · skip
      have e1 := g_finds_ok b22
      have e2 := hz k (by omega)
      rw [z_ti (n := T) (by omega)] at e1
      obtain ⟨a, ha, rfl, ha2⟩ := z_nI (v := i) (n := 47) (by omega) (by omega)
      rw [if_neg (by omega), if_neg (by omega), nI_clamp (n := a) (by omega)] at hQ
      refine AW.iconst 28 (nI 0) dX10_lots_27 (by decide) rfl ?_
      refine AW.ist4 30 dX10_lots_28 (by decide) rfl rfl ?_
      refine AW.iconst 31 (nI 0) dX10_lots_30 (by decide) rfl ?_
      refine AW.ist5 33 dX10_lots_31 (by decide) rfl rfl ?_
      have L := L_X10_lots (l := l) (g := g) (d := d + 2) (m0 := m0) (m1 := m1) (md := md) (M := M) (T := T) hT hT2 (k := k) (a := a) (w := g_finds M k (nI 0) (nI a) (nI T)) (by omega) (by omega) hQ T 0 (by omega)
      rw [z_cpy_0, z_row_self] at L
      exact L
    · skip
      refine AW.iload_n 26 dX10_lots_25 rfl rfl ?_
      refine AW.iret dX10_lots_26 .int rfl rfl rfl ⟨_, rfl, ?_⟩
      (repeat' split at hQ) <;> first | exact hQ | (exfalso; omega)
  · skip
    refine AW.if_ne 7 9 dX10_lots_4 (by decide) rfl (fun h => absurd h (by decide)) (fun _ => ?_)
    refine AW.iconst 8 (-1) dX10_lots_7 (by decide) rfl ?_
    refine AW.iret dX10_lots_8 .int rfl rfl rfl ⟨_, rfl, ?_⟩
    (repeat' split at hQ) <;> first | exact hQ | (exfalso; omega)
end MWORLD2
section CWORLD
variable {l : Launch} {g : zG} {d m0 m1 md : Nat} {M : zM} {T : Nat}
theorem C_X9_noTick (hT : M 59 1 = nI T) (hT1 : 1 ≤ T) (hT2 : T ≤ 12) {s : Int32} {Q : Int32 → zS → zM → Prop} (h1 : s.toInt < 0 ∨ (T : Int) ≤ s.toInt → Q (nI 1) (ZS m0 m1 md) M) (h0 : ¬ (s.toInt < 0 ∨ (T : Int) ≤ s.toInt) → Q (nI 0) (ZS m0 m1 md) M) : AMet l g yX9_noTick cX9_noTick 2 (some .boolean) (d + 1) 0 0 [.ref 0, .int s] (ZS m0 m1 md) M (z_Qi Q) := by
  refine AMet.of (ini := false) rfl (fun h => by first | rfl | cases h) (Nat.le_of_ble_eq_true rfl) ?_
  show AW l g RX9 cX9_noTick 2 (some .boolean) false _ _ _ 0 [some (.ref 0), some (.int s)] [] _ _ _
  refine AW.iload_n 1 dX9_noTick_0 rfl rfl ?_
  refine AW.aload_n 2 dX9_noTick_1 rfl rfl ?_
  refine AW.getR 5 dX9_noTick_2 fX9_39 rfl (zI rfl rfl) rfl rfl ?_
  refine AW.getI 8 dX9_noTick_5 fX9_133 rfl (zI rfl rfl) rfl ?_
  refine AW.topi (nI T) hT ?_
  refine AW.iconst 9 (nI 1) dX9_noTick_8 (by decide) rfl ?_
  refine AW.isubN 10 dX9_noTick_9 (by omega) rfl ?_
  refine AW.cSi2 13 dX9_noTick_10 kX9_120 (Nat.le_of_ble_eq_true rfl) rfl (C_beyond rfl (z_ti (n := T - 1) (by omega)) (fun b10 => ?_) (fun b10 => ?_))
  · skip
    refine AW.iret dX9_noTick_13 .boolean rfl rfl rfl ⟨_, rfl, ?_⟩
    first | exact h1 (by omega) | exact h0 (by omega)
  · skip
    refine AW.iret dX9_noTick_13 .boolean rfl rfl rfl ⟨_, rfl, ?_⟩
    first | exact h1 (by omega) | exact h0 (by omega)
theorem L_X8_resize {n : Nat} (hn : n ≤ 12) {Q : Option Value → zS → zM → Prop} (hQ : AW l g RX8 cX8_resize 3 none false d 0 0 44 [some (.ref 59), some (.int (nI n)), some (.int (nI n))] [] (ZS m0 m1 md) (z_row (z_row (z_row M 61 (z_rng (M 61) T n (nI 0))) 62 (z_rng (M 62) T n (nI 0))) 63 (z_rng (M 63) T n (nI 15))) Q) :
    ∀ (q i : Nat), T ≤ i → i + q = n → AW l g RX8 cX8_resize 3 none false d 0 0 5 [some (.ref 59), some (.int (nI n)), some (.int (nI i))] [] (ZS m0 m1 md) (z_row (z_row (z_row M 61 (z_rng (M 61) T i (nI 0))) 62 (z_rng (M 62) T i (nI 0))) 63 (z_rng (M 63) T i (nI 15))) Q := by
  intro q
  induction q with
  | zero =>
    intro i hi0 hi
    have hi : i = n := by omega
    subst hi
    refine AW.iload_n 6 dX8_resize_5 rfl rfl ?_
    refine AW.iload_n 7 dX8_resize_6 rfl rfl ?_
    refine AW.icmpN_ge 10 44 dX8_resize_7 (by decide) rfl (by omega) (by omega) (fun b7 => ?_) (fun b7 => absurd b7 (by omega))
    exact hQ
  | succ q ih =>
    intro i hi0 hi
    refine AW.iload_n 6 dX8_resize_5 rfl rfl ?_
    refine AW.iload_n 7 dX8_resize_6 rfl rfl ?_
    refine AW.icmpN_ge 10 44 dX8_resize_7 (by decide) rfl (by omega) (by omega) (fun b7 => absurd b7 (by omega)) (fun b7 => ?_)
    refine AW.aload_n 11 dX8_resize_10 rfl rfl ?_
    refine AW.getR 14 dX8_resize_11 fX8_11 rfl (zI rfl rfl) rfl rfl ?_
    refine AW.iconst 15 (nI 0) dX8_resize_14 (by decide) rfl ?_
    refine AW.aald 16 dX8_resize_15 (zA rfl rfl) (by decide) rfl (by omega) (by decide) rfl rfl ?_
    refine AW.iload_n 17 dX8_resize_16 rfl rfl ?_
    refine AW.iconst 18 (nI 0) dX8_resize_17 (by decide) rfl ?_
    refine AW.iast 19 dX8_resize_18 (zA rfl rfl) rfl (by omega) (by decide) rfl ?_
    rw [z_st_row_ne (by decide), z_st_row_ne (by decide), z_st_row, z_rng_s _ _ _ _ hi0]
    refine AW.aload_n 20 dX8_resize_19 rfl rfl ?_
    refine AW.getR 23 dX8_resize_20 fX8_11 rfl (zI rfl rfl) rfl rfl ?_
    refine AW.iconst 24 (nI 1) dX8_resize_23 (by decide) rfl ?_
    refine AW.aald 25 dX8_resize_24 (zA rfl rfl) (by decide) rfl (by omega) (by decide) rfl rfl ?_
    refine AW.iload_n 26 dX8_resize_25 rfl rfl ?_
    refine AW.iconst 27 (nI 0) dX8_resize_26 (by decide) rfl ?_
    refine AW.iast 28 dX8_resize_27 (zA rfl rfl) rfl (by omega) (by decide) rfl ?_
    rw [z_st_row_ne (by decide), z_st_row, z_rng_s _ _ _ _ hi0]
    refine AW.aload_n 29 dX8_resize_28 rfl rfl ?_
    refine AW.getR 32 dX8_resize_29 fX8_11 rfl (zI rfl rfl) rfl rfl ?_
    refine AW.iconst 33 (nI 2) dX8_resize_32 (by decide) rfl ?_
    refine AW.aald 34 dX8_resize_33 (zA rfl rfl) (by decide) rfl (by omega) (by decide) rfl rfl ?_
    refine AW.iload_n 35 dX8_resize_34 rfl rfl ?_
    refine AW.bipush 37 (nI 15) dX8_resize_35 (by decide) rfl ?_
    refine AW.iast 38 dX8_resize_37 (zA rfl rfl) rfl (by omega) (by decide) rfl ?_
    rw [z_st_row, z_rng_s _ _ _ _ hi0]
    refine AW.iinc2 41 _ dX8_resize_38 (z_inc1 _) (by decide) rfl rfl ?_
    refine AW.goto 5 dX8_resize_41 (by decide) ?_
    exact ih (i + 1) (by omega) (by omega)
theorem C_X8_resize (hT : M 59 1 = nI T) (hT2 : T ≤ 12) {n : Nat} (hn : n ≤ 12) {Q : zS → zM → Prop} (hQ : Q (ZS m0 m1 md) (z_st (z_row (z_row (z_row M 61 (z_rng (M 61) T n (nI 0))) 62 (z_rng (M 62) T n (nI 0))) 63 (z_rng (M 63) T n (nI 15))) 59 1 (nI n))) : AMet l g yX8_resize cX8_resize 3 none d 0 0 [.ref 59, .int (nI n)] (ZS m0 m1 md) M (z_Qv Q) := by
  refine AMet.of (ini := false) rfl (fun h => by first | rfl | cases h) (Nat.le_of_ble_eq_true rfl) ?_
  show AW l g RX8 cX8_resize 3 none false _ _ _ 0 [some (.ref 59), some (.int (nI n)), none] [] _ _ _
  refine AW.aload_n 1 dX8_resize_0 rfl rfl ?_
  refine AW.getI 4 dX8_resize_1 fX8_16 rfl (zI rfl rfl) rfl ?_
  refine AW.topi (nI T) hT ?_
  refine AW.istn2 5 dX8_resize_4 (by decide) rfl rfl ?_
  rcases Nat.lt_or_ge n T with h | h
  · rw [z_rng_e _ _ (by omega), z_rng_e _ _ (by omega), z_rng_e _ _ (by omega), z_row_self, z_row_self, z_row_self] at hQ
    refine AW.iload_n 6 dX8_resize_5 rfl rfl ?_
    refine AW.iload_n 7 dX8_resize_6 rfl rfl ?_
    refine AW.icmpN_ge 10 44 dX8_resize_7 (by decide) rfl (by omega) (by omega) (fun b21 => ?_) (fun b21 => absurd b21 (by omega))
    refine AW.aload_n 45 dX8_resize_44 rfl rfl ?_
    refine AW.iload_n 46 dX8_resize_45 rfl rfl ?_
    refine AW.putI 49 .int dX8_resize_46 pX8_16 rfl (zI rfl rfl) rfl rfl rfl ?_
    refine AW.vret dX8_resize_49 rfl rfl ⟨rfl, ?_⟩
    exact hQ
  · have L := L_X8_resize (l := l) (g := g) (d := d) (m0 := m0) (m1 := m1) (md := md) (M := M) (T := T) (n := n) (Q := z_Qv Q) (by omega) ?_ (n - T) T (Nat.le_refl _) (by omega)
    · rw [z_rng_0, z_rng_0, z_rng_0, z_row_self, z_row_self, z_row_self] at L
      exact L
    · skip
      refine AW.aload_n 45 dX8_resize_44 rfl rfl ?_
      refine AW.iload_n 46 dX8_resize_45 rfl rfl ?_
      refine AW.putI 49 .int dX8_resize_46 pX8_16 rfl (zI rfl rfl) rfl rfl rfl ?_
      refine AW.vret dX8_resize_49 rfl rfl ⟨rfl, ?_⟩
      exact hQ
theorem C_X9_ticks (hT : M 59 1 = nI T) (hT1 : 1 ≤ T) (hT2 : T ≤ 12) {n : Int32} {Q : Int32 → zS → zM → Prop} (hQ : Q (f_ticks M n).1 (ZS m0 m1 md) (f_ticks M n).2) : AMet l g yX9_ticks cX9_ticks 3 (some .int) (d + 1) 0 0 [.ref 0, .int n] (ZS m0 m1 md) M (z_Qi Q) := by
  unfold f_ticks at hQ
  rw [hT, nI_clamp (by omega)] at hQ
  refine AMet.of (ini := false) rfl (fun h => by first | rfl | cases h) (Nat.le_of_ble_eq_true rfl) ?_
  show AW l g RX9 cX9_ticks 3 (some .int) false _ _ _ 0 [some (.ref 0), some (.int n), none] [] _ _ _
  refine AW.iload_n 1 dX9_ticks_0 rfl rfl ?_
  refine AW.iconst 2 (nI 1) dX9_ticks_1 (by decide) rfl ?_
  refine AW.zicmp_lt 5 11 dX9_ticks_2 (by decide) rfl rfl (by decide : (nI 1).toInt = 1) (fun b2 => ?_) (fun b2 => ?_)
  · skip
    refine AW.iconst 12 (-1) dX9_ticks_11 (by decide) rfl ?_
    refine AW.iret dX9_ticks_12 .int rfl rfl rfl ⟨_, rfl, ?_⟩
    rw [if_pos (by omega)] at hQ
    exact hQ
  · skip
    refine AW.iload_n 6 dX9_ticks_5 rfl rfl ?_
    refine AW.bipush 8 (nI 12) dX9_ticks_6 (by decide) rfl ?_
    refine AW.zicmp_le 11 13 dX9_ticks_8 (by decide) rfl rfl (by decide : (nI 12).toInt = 12) (fun b8 => ?_) (fun b8 => ?_)
    · skip
      obtain ⟨k, hk, rfl, hk2⟩ := z_nI (v := n) (n := 12) (by omega) (by omega)
      rw [if_neg (by omega), nI_clamp (n := k) (by omega)] at hQ
      refine AW.aload_n 14 dX9_ticks_13 rfl rfl ?_
      refine AW.getR 17 dX9_ticks_14 fX9_39 rfl (zI rfl rfl) rfl rfl ?_
      refine AW.getI 20 dX9_ticks_17 fX9_133 rfl (zI rfl rfl) rfl ?_
      refine AW.topi (nI T) hT ?_
      refine AW.istn2 21 dX9_ticks_20 (by decide) rfl rfl ?_
      refine AW.aload_n 22 dX9_ticks_21 rfl rfl ?_
      refine AW.getR 25 dX9_ticks_22 fX9_39 rfl (zI rfl rfl) rfl rfl ?_
      refine AW.iload_n 26 dX9_ticks_25 rfl rfl ?_
      refine AW.cVv1 29 dX9_ticks_26 kX9_134 (zI rfl rfl) (Nat.le_of_ble_eq_true rfl) rfl (C_X8_resize hT hT2 (by omega) ?_)
      refine AW.iload_n 30 dX9_ticks_29 rfl rfl ?_
      refine AW.iret dX9_ticks_30 .int rfl rfl rfl ⟨_, rfl, ?_⟩
      exact hQ
    · skip
      refine AW.iconst 12 (-1) dX9_ticks_11 (by decide) rfl ?_
      refine AW.iret dX9_ticks_12 .int rfl rfl rfl ⟨_, rfl, ?_⟩
      rw [if_pos (by omega)] at hQ
      exact hQ
theorem C_X9_world (hT : M 59 1 = nI T) (hT1 : 1 ≤ T) (hT2 : T ≤ 12) {t w v : Int32} {Q : Int32 → zS → zM → Prop} (hQ : Q (f_world M t w v).1 (ZS m0 m1 md) (f_world M t w v).2) : AMet l g yX9_world cX9_world 5 (some .int) (d + 2) 0 0 [.ref 0, .int t, .int w, .int v] (ZS m0 m1 md) M (z_Qi Q) := by
  unfold f_world at hQ
  rw [hT, z_ti (by omega)] at hQ
  refine AMet.of (ini := false) rfl (fun h => by first | rfl | cases h) (Nat.le_of_ble_eq_true rfl) ?_
  show AW l g RX9 cX9_world 5 (some .int) false _ _ _ 0 [some (.ref 0), some (.int t), some (.int w), some (.int v), none] [] _ _ _
  refine AW.aload_n 1 dX9_world_0 rfl rfl ?_
  refine AW.iload_n 2 dX9_world_1 rfl rfl ?_
  refine AW.cVi1 5 dX9_world_2 kX9_137 (zI rfl rfl) (Nat.le_of_ble_eq_true rfl) rfl (C_X9_noTick hT hT1 hT2 (fun b2 => ?_) (fun b2 => ?_))
  · skip
    refine AW.if_ne 8 34 dX9_world_5 (by decide) rfl (fun _ => ?_) (fun h => absurd h (by decide))
    refine AW.iconst 35 (-1) dX9_world_34 (by decide) rfl ?_
    refine AW.iret dX9_world_35 .int rfl rfl rfl ⟨_, rfl, ?_⟩
    (repeat' split at hQ) <;> first | exact hQ | (exfalso; omega)
  · skip
    obtain ⟨k, hk, rfl, hk2⟩ := z_nI (v := t) (n := 11) (by omega) (by omega)
    rw [nI_clamp (n := k) (by omega)] at hQ
    refine AW.if_ne 8 34 dX9_world_5 (by decide) rfl (fun h => absurd h (by decide)) (fun _ => ?_)
    refine AW.iload_n 9 dX9_world_8 rfl rfl ?_
    refine AW.iconst 10 (nI 2) dX9_world_9 (by decide) rfl ?_
    refine AW.cSi2 13 dX9_world_10 kX9_120 (Nat.le_of_ble_eq_true rfl) rfl (C_beyond rfl (by decide : (nI 2).toInt = 2) (fun b10 => ?_) (fun b10 => ?_))
    · skip
      refine AW.if_ne 16 34 dX9_world_13 (by decide) rfl (fun _ => ?_) (fun h => absurd h (by decide))
      refine AW.iconst 35 (-1) dX9_world_34 (by decide) rfl ?_
      refine AW.iret dX9_world_35 .int rfl rfl rfl ⟨_, rfl, ?_⟩
      (repeat' split at hQ) <;> first | exact hQ | (exfalso; omega)
    · skip
      obtain ⟨c, hc, rfl, hc2⟩ := z_nI (v := w) (n := 2) (by omega) (by omega)
      rw [nI_clamp (n := c) (by omega)] at hQ
      refine AW.if_ne 16 34 dX9_world_13 (by decide) rfl (fun h => absurd h (by decide)) (fun _ => ?_)
      refine AW.iload_n 17 dX9_world_16 rfl rfl ?_
      refine AW.iload_n 18 dX9_world_17 rfl rfl ?_
      refine AW.iconst 19 (nI 1) dX9_world_18 (by decide) rfl ?_
      refine AW.icmpN_ne 22 26 dX9_world_19 (by decide) rfl (by omega) (by omega) (fun b19 => ?_) (fun b19 => ?_)
      · skip
        refine AW.bipush 28 (nI 15) dX9_world_26 (by decide) rfl ?_
        refine AW.cSi2 31 dX9_world_28 kX9_120 (Nat.le_of_ble_eq_true rfl) rfl (C_beyond rfl rfl (fun b28 => ?_) (fun b28 => ?_))
        · skip
          have e1 : (nI 1).toInt = 1 := by decide
          have e15 : (nI 15).toInt = 15 := by decide
          refine AW.if_eq 34 36 dX9_world_31 (by decide) rfl (fun h => absurd h (by decide)) (fun _ => ?_)
          refine AW.iconst 35 (-1) dX9_world_34 (by decide) rfl ?_
          refine AW.iret dX9_world_35 .int rfl rfl rfl ⟨_, rfl, ?_⟩
          (repeat' split at hQ) <;> first | exact hQ | (exfalso; omega)
        · skip
          have e1 : (nI 1).toInt = 1 := by decide
          have e15 : (nI 15).toInt = 15 := by decide
          refine AW.if_eq 34 36 dX9_world_31 (by decide) rfl (fun _ => ?_) (fun h => absurd h (by decide))
          refine AW.aload_n 37 dX9_world_36 rfl rfl ?_
          refine AW.getR 40 dX9_world_37 fX9_39 rfl (zI rfl rfl) rfl rfl ?_
          refine AW.getR 43 dX9_world_40 fX9_140 rfl (zI rfl rfl) rfl rfl ?_
          refine AW.iload_n 44 dX9_world_43 rfl rfl ?_
          refine AW.aald 45 dX9_world_44 (zA rfl rfl) (by decide) rfl (by omega) (by decide) (zWo_r (by omega)) rfl ?_
          refine AW.iload_n 46 dX9_world_45 rfl rfl ?_
          refine AW.iald 47 dX9_world_46 (zWo_a (by omega)) rfl (by omega) (by decide) rfl ?_
          refine AW.ist4 49 dX9_world_47 (by decide) rfl rfl ?_
          refine AW.aload_n 50 dX9_world_49 rfl rfl ?_
          refine AW.getR 53 dX9_world_50 fX9_39 rfl (zI rfl rfl) rfl rfl ?_
          refine AW.getR 56 dX9_world_53 fX9_140 rfl (zI rfl rfl) rfl rfl ?_
          refine AW.iload_n 57 dX9_world_56 rfl rfl ?_
          refine AW.aald 58 dX9_world_57 (zA rfl rfl) (by decide) rfl (by omega) (by decide) (zWo_r (by omega)) rfl ?_
          refine AW.iload_n 59 dX9_world_58 rfl rfl ?_
          refine AW.iload_n 60 dX9_world_59 rfl rfl ?_
          refine AW.iast 61 dX9_world_60 (zWo_a (by omega)) rfl (by omega) (by decide) rfl ?_
          refine AW.iload 63 dX9_world_61 rfl rfl ?_
          refine AW.iret dX9_world_63 .int rfl rfl rfl ⟨_, rfl, ?_⟩
          (repeat' split at hQ) <;> first | exact hQ | (exfalso; omega)
      · skip
        refine AW.iconst 23 (nI 1) dX9_world_22 (by decide) rfl ?_
        refine AW.goto 28 dX9_world_23 (by decide) ?_
        refine AW.cSi2 31 dX9_world_28 kX9_120 (Nat.le_of_ble_eq_true rfl) rfl (C_beyond rfl rfl (fun b28 => ?_) (fun b28 => ?_))
        · skip
          have e1 : (nI 1).toInt = 1 := by decide
          have e15 : (nI 15).toInt = 15 := by decide
          refine AW.if_eq 34 36 dX9_world_31 (by decide) rfl (fun h => absurd h (by decide)) (fun _ => ?_)
          refine AW.iconst 35 (-1) dX9_world_34 (by decide) rfl ?_
          refine AW.iret dX9_world_35 .int rfl rfl rfl ⟨_, rfl, ?_⟩
          (repeat' split at hQ) <;> first | exact hQ | (exfalso; omega)
        · skip
          have e1 : (nI 1).toInt = 1 := by decide
          have e15 : (nI 15).toInt = 15 := by decide
          refine AW.if_eq 34 36 dX9_world_31 (by decide) rfl (fun _ => ?_) (fun h => absurd h (by decide))
          refine AW.aload_n 37 dX9_world_36 rfl rfl ?_
          refine AW.getR 40 dX9_world_37 fX9_39 rfl (zI rfl rfl) rfl rfl ?_
          refine AW.getR 43 dX9_world_40 fX9_140 rfl (zI rfl rfl) rfl rfl ?_
          refine AW.iload_n 44 dX9_world_43 rfl rfl ?_
          refine AW.aald 45 dX9_world_44 (zA rfl rfl) (by decide) rfl (by omega) (by decide) (zWo_r (by omega)) rfl ?_
          refine AW.iload_n 46 dX9_world_45 rfl rfl ?_
          refine AW.iald 47 dX9_world_46 (zWo_a (by omega)) rfl (by omega) (by decide) rfl ?_
          refine AW.ist4 49 dX9_world_47 (by decide) rfl rfl ?_
          refine AW.aload_n 50 dX9_world_49 rfl rfl ?_
          refine AW.getR 53 dX9_world_50 fX9_39 rfl (zI rfl rfl) rfl rfl ?_
          refine AW.getR 56 dX9_world_53 fX9_140 rfl (zI rfl rfl) rfl rfl ?_
          refine AW.iload_n 57 dX9_world_56 rfl rfl ?_
          refine AW.aald 58 dX9_world_57 (zA rfl rfl) (by decide) rfl (by omega) (by decide) (zWo_r (by omega)) rfl ?_
          refine AW.iload_n 59 dX9_world_58 rfl rfl ?_
          refine AW.iload_n 60 dX9_world_59 rfl rfl ?_
          refine AW.iast 61 dX9_world_60 (zWo_a (by omega)) rfl (by omega) (by decide) rfl ?_
          refine AW.iload 63 dX9_world_61 rfl rfl ?_
          refine AW.iret dX9_world_63 .int rfl rfl rfl ⟨_, rfl, ?_⟩
          (repeat' split at hQ) <;> first | exact hQ | (exfalso; omega)
end CWORLD

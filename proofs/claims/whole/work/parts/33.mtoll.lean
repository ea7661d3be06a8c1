set_option maxHeartbeats 400000 in
set_option maxRecDepth 100000 in
/-- TOLL -/
theorem c_X11_tollOf (l : Launch) (D : va_G) (A : Nat → Prop) (q : Nat → Nat) (cI n : Nat) (F : Nat → Nat → Int32) (B G : Nat → Int32) (cnt : Int32) (r : Nat → Int32) (thr dv : Int32) (j k : Nat) (hj : j < 24) (hk : k < 9) (hF : F j 2 = nI k) (h : Int32)  : Ct l yX11_tollOf (.code yX11_tollOf cX11_tollOf 4 (some .int)) ({ frames := 2, cells := 0, slots := 0, locals := 48 }) A [.ref (q 0), .int (nI j), .int h] (Mp D A q cI n F B G cnt r thr dv) (.inl (some (.int (tR k F j h)))) (Mp D A q cI n F (tB k h B) (tG k F j G) cnt r thr (b2i (tX k F j))) := by
  refine ct_mk (by decide) (Nat.le_of_ble_eq_true rfl) (fun p e s m below meth c ls C hr hlocks hnm htab hP hl => ?_)
  have hw := hP
  have hS : va_S A s.heap s.heap [] := va_S.rf
  have hl : lv_has ls 4 [(0, .ref (q 0)), (1, .int (nI j)), (2, .int h)] := hl
  rcases (show k = 0 ∨ k = 1 ∨ k = 2 ∨ k = 3 ∨ k = 4 ∨ k = 5 ∨ k = 6 ∨ k = 7 ∨ k = 8 by omega) with rfl | rfl | rfl | rfl | rfl | rfl | rfl | rfl | rfl
  · refine lv_aload_n C.1 C.2.1 dX11_tollOf_0 rfl (lv_at hl 0 rfl) ?_
    refine lv_iconst (v := 0) C.1 C.2.1 dX11_tollOf_1 (by decide) ?_
    refine mp_dv C hw hS tb_725 (by decide) dX11_tollOf_2 (fun H locs hw hS => ?_)
    refine lv_aload_n C.1 C.2.1 dX11_tollOf_5 rfl (lv_at hl 0 rfl) ?_
    refine mg_get C hw 2 (by decide) tb_710 rfl dX11_tollOf_6 ?_
    refine lv_iload_n C.1 C.2.1 dX11_tollOf_9 rfl (lv_at hl 1 rfl) ?_
    refine ma_kind C hw hj rfl dX11_tollOf_10 ?_
    rw [hF]
    refine lv_tableOut (tgt := 249) C.1 C.2.1 dX11_tollOf_11 (Or.inl (by decide)) (by decide) ?_
    refine lv_aload_n C.1 C.2.1 dX11_tollOf_249 rfl (lv_at hl 0 rfl) ?_
    refine lv_iload_n C.1 C.2.1 dX11_tollOf_250 rfl (lv_at hl 1 rfl) ?_
    refine ct_ret (ct_V0 C (c_X11_plainToll l D A q _ _ _ _ _ _ _ _ _ j _ hj hk hF) Mp_bl (Or.inl rfl) tb_800 tb_3 ⟨Nat.le_of_ble_eq_true rfl, Nat.le_of_ble_eq_true rfl⟩ tb_797 ⟨by decide, by decide⟩ tbp_6 tb_799 (m_recv hw) (fun U hU hW => m_post hw hU hW) (sig_code (C.2.2.2.2 _ tb_800)) (by show _ = some 1; decide +kernel) hl.1 rfl (Nat.le_of_ble_eq_true rfl) dX11_tollOf_251 ⟨Nat.le_of_ble_eq_true rfl, Nat.le_of_ble_eq_true rfl⟩) hS (fun _ h => h) (fun t H locs ht hvm hw _ _ hS => ?_)
    have hw := m_back hw ht hvm
    exact ct_i C hr hlocks rfl (fun t ht hW => m_post hw ht hW) hS (Nat.le_of_ble_eq_true rfl) (Nat.le_of_ble_eq_true rfl) dX11_tollOf_254
  · refine lv_aload_n C.1 C.2.1 dX11_tollOf_0 rfl (lv_at hl 0 rfl) ?_
    refine lv_iconst (v := 0) C.1 C.2.1 dX11_tollOf_1 (by decide) ?_
    refine mp_dv C hw hS tb_725 (by decide) dX11_tollOf_2 (fun H locs hw hS => ?_)
    refine lv_aload_n C.1 C.2.1 dX11_tollOf_5 rfl (lv_at hl 0 rfl) ?_
    refine mg_get C hw 2 (by decide) tb_710 rfl dX11_tollOf_6 ?_
    refine lv_iload_n C.1 C.2.1 dX11_tollOf_9 rfl (lv_at hl 1 rfl) ?_
    refine ma_kind C hw hj rfl dX11_tollOf_10 ?_
    rw [hF]
    refine lv_tableOut (tgt := 249) C.1 C.2.1 dX11_tollOf_11 (Or.inl (by decide)) (by decide) ?_
    refine lv_aload_n C.1 C.2.1 dX11_tollOf_249 rfl (lv_at hl 0 rfl) ?_
    refine lv_iload_n C.1 C.2.1 dX11_tollOf_250 rfl (lv_at hl 1 rfl) ?_
    refine ct_ret (ct_V0 C (c_X11_plainToll l D A q _ _ _ _ _ _ _ _ _ j _ hj hk hF) Mp_bl (Or.inl rfl) tb_800 tb_3 ⟨Nat.le_of_ble_eq_true rfl, Nat.le_of_ble_eq_true rfl⟩ tb_797 ⟨by decide, by decide⟩ tbp_6 tb_799 (m_recv hw) (fun U hU hW => m_post hw hU hW) (sig_code (C.2.2.2.2 _ tb_800)) (by show _ = some 1; decide +kernel) hl.1 rfl (Nat.le_of_ble_eq_true rfl) dX11_tollOf_251 ⟨Nat.le_of_ble_eq_true rfl, Nat.le_of_ble_eq_true rfl⟩) hS (fun _ h => h) (fun t H locs ht hvm hw _ _ hS => ?_)
    have hw := m_back hw ht hvm
    exact ct_i C hr hlocks rfl (fun t ht hW => m_post hw ht hW) hS (Nat.le_of_ble_eq_true rfl) (Nat.le_of_ble_eq_true rfl) dX11_tollOf_254
  · refine lv_aload_n C.1 C.2.1 dX11_tollOf_0 rfl (lv_at hl 0 rfl) ?_
    refine lv_iconst (v := 0) C.1 C.2.1 dX11_tollOf_1 (by decide) ?_
    refine mp_dv C hw hS tb_725 (by decide) dX11_tollOf_2 (fun H locs hw hS => ?_)
    refine lv_aload_n C.1 C.2.1 dX11_tollOf_5 rfl (lv_at hl 0 rfl) ?_
    refine mg_get C hw 2 (by decide) tb_710 rfl dX11_tollOf_6 ?_
    refine lv_iload_n C.1 C.2.1 dX11_tollOf_9 rfl (lv_at hl 1 rfl) ?_
    refine ma_kind C hw hj rfl dX11_tollOf_10 ?_
    rw [hF]
    refine lv_tableIn (tgt := 52) C.1 C.2.1 dX11_tollOf_11 (by decide) (by decide) rfl (by decide) ?_
    refine m_bump C hw tb_720 (lv_at hl 0 rfl) dX11_tollOf_52 dX11_tollOf_53 ?_
    refine lv_iconst (v := 2) C.1 C.2.1 dX11_tollOf_56 (by decide) ?_
    refine m_inc C hw hS (j := 2) (by decide) (by decide) dX11_tollOf_57 dX11_tollOf_58 dX11_tollOf_59 dX11_tollOf_60 dX11_tollOf_61 (fun H locs hw hS => ?_)
    refine lv_aload_n C.1 C.2.1 dX11_tollOf_62 rfl (lv_at hl 0 rfl) ?_
    refine lv_iload_n C.1 C.2.1 dX11_tollOf_63 rfl (lv_at hl 1 rfl) ?_
    refine ct_ret (ct_V0 C (c_X11_plainToll l D A q _ _ _ _ _ _ _ _ _ j _ hj hk hF) Mp_bl (Or.inl rfl) tb_800 tb_3 ⟨Nat.le_of_ble_eq_true rfl, Nat.le_of_ble_eq_true rfl⟩ tb_797 ⟨by decide, by decide⟩ tbp_6 tb_799 (m_recv hw) (fun U hU hW => m_post hw hU hW) (sig_code (C.2.2.2.2 _ tb_800)) (by show _ = some 1; decide +kernel) hl.1 rfl (Nat.le_of_ble_eq_true rfl) dX11_tollOf_64 ⟨Nat.le_of_ble_eq_true rfl, Nat.le_of_ble_eq_true rfl⟩) hS (fun _ h => h) (fun t H locs ht hvm hw _ _ hS => ?_)
    have hw := m_back hw ht hvm
    refine lv_bipush (v := 10) C.1 C.2.1 dX11_tollOf_67 (by decide) ?_
    refine lv_iadd C.1 C.2.1 dX11_tollOf_69 ?_
    exact ct_i C hr hlocks rfl (fun t ht hW => m_post hw ht hW) hS (Nat.le_of_ble_eq_true rfl) (Nat.le_of_ble_eq_true rfl) dX11_tollOf_70
  · refine lv_aload_n C.1 C.2.1 dX11_tollOf_0 rfl (lv_at hl 0 rfl) ?_
    refine lv_iconst (v := 0) C.1 C.2.1 dX11_tollOf_1 (by decide) ?_
    refine mp_dv C hw hS tb_725 (by decide) dX11_tollOf_2 (fun H locs hw hS => ?_)
    refine lv_aload_n C.1 C.2.1 dX11_tollOf_5 rfl (lv_at hl 0 rfl) ?_
    refine mg_get C hw 2 (by decide) tb_710 rfl dX11_tollOf_6 ?_
    refine lv_iload_n C.1 C.2.1 dX11_tollOf_9 rfl (lv_at hl 1 rfl) ?_
    refine ma_kind C hw hj rfl dX11_tollOf_10 ?_
    rw [hF]
    refine lv_tableIn (tgt := 71) C.1 C.2.1 dX11_tollOf_11 (by decide) (by decide) rfl (by decide) ?_
    refine m_bump C hw tb_720 (lv_at hl 0 rfl) dX11_tollOf_71 dX11_tollOf_72 ?_
    refine lv_iconst (v := 3) C.1 C.2.1 dX11_tollOf_75 (by decide) ?_
    refine m_inc C hw hS (j := 3) (by decide) (by decide) dX11_tollOf_76 dX11_tollOf_77 dX11_tollOf_78 dX11_tollOf_79 dX11_tollOf_80 (fun H locs hw hS => ?_)
    refine m_bump C hw tb_720 (lv_at hl 0 rfl) dX11_tollOf_81 dX11_tollOf_82 ?_
    refine lv_iconst (v := 2) C.1 C.2.1 dX11_tollOf_85 (by decide) ?_
    refine m_inc C hw hS (j := 2) (by decide) (by decide) dX11_tollOf_86 dX11_tollOf_87 dX11_tollOf_88 dX11_tollOf_89 dX11_tollOf_90 (fun H locs hw hS => ?_)
    refine lv_aload_n C.1 C.2.1 dX11_tollOf_91 rfl (lv_at hl 0 rfl) ?_
    refine lv_iload_n C.1 C.2.1 dX11_tollOf_92 rfl (lv_at hl 1 rfl) ?_
    refine ct_ret (ct_V0 C (c_X11_plainToll l D A q _ _ _ _ _ _ _ _ _ j _ hj hk hF) Mp_bl (Or.inl rfl) tb_800 tb_3 ⟨Nat.le_of_ble_eq_true rfl, Nat.le_of_ble_eq_true rfl⟩ tb_797 ⟨by decide, by decide⟩ tbp_6 tb_799 (m_recv hw) (fun U hU hW => m_post hw hU hW) (sig_code (C.2.2.2.2 _ tb_800)) (by show _ = some 1; decide +kernel) hl.1 rfl (Nat.le_of_ble_eq_true rfl) dX11_tollOf_93 ⟨Nat.le_of_ble_eq_true rfl, Nat.le_of_ble_eq_true rfl⟩) hS (fun _ h => h) (fun t H locs ht hvm hw _ _ hS => ?_)
    have hw := m_back hw ht hvm
    refine lv_bipush (v := 10) C.1 C.2.1 dX11_tollOf_96 (by decide) ?_
    refine lv_iadd C.1 C.2.1 dX11_tollOf_98 ?_
    refine lv_istore_n (lv' := [(3, .int ((tP 3 F j) + (10))), (0, .ref (q 0)), (1, .int (nI j)), (2, .int (h))]) C.1 C.2.1 dX11_tollOf_99 rfl hl (by decide) rfl (fun ls hl => ?_)
    refine lv_iload_n C.1 C.2.1 dX11_tollOf_100 rfl (lv_at hl 3 rfl) ?_
    refine lv_bipush (v := 20) C.1 C.2.1 dX11_tollOf_101 (by decide) ?_
    refine lv_icmp_ge (tgt := 112) C.1 C.2.1 dX11_tollOf_103 (by decide) (fun h1 => ?_) (fun h1 => ?_)
    · refine lv_iconst (v := 2) C.1 C.2.1 dX11_tollOf_112 (by decide) ?_
      refine lv_iload_n C.1 C.2.1 dX11_tollOf_113 rfl (lv_at hl 0 rfl) ?_
      refine lv_imul C.1 C.2.1 dX11_tollOf_114 ?_
      refine lv_goto (tgt := 126) C.1 C.2.1 dX11_tollOf_115 (by decide) ?_
      exact ct_i C hr hlocks (by rw [show tR 3 F j h = (if 20 ≤ h then 2 * (tP 3 F j + 10) else if 6 ≤ h then tP 3 F j + 10 + F j 9 else 2 * (tP 3 F j + 10)) from rfl, if_pos h1]) (fun t ht hW => m_post hw ht hW) hS (Nat.le_of_ble_eq_true rfl) (Nat.le_of_ble_eq_true rfl) dX11_tollOf_126
    · refine lv_iload_n C.1 C.2.1 dX11_tollOf_106 rfl (lv_at hl 3 rfl) ?_
      refine lv_bipush (v := 6) C.1 C.2.1 dX11_tollOf_107 (by decide) ?_
      refine lv_icmp_ge (tgt := 118) C.1 C.2.1 dX11_tollOf_109 (by decide) (fun h2 => ?_) (fun h2 => ?_)
      · refine lv_iload_n C.1 C.2.1 dX11_tollOf_118 rfl (lv_at hl 0 rfl) ?_
        refine lv_aload_n C.1 C.2.1 dX11_tollOf_119 rfl (lv_at hl 1 rfl) ?_
        refine mg_get C hw 9 (by decide) tb_717 rfl dX11_tollOf_120 ?_
        refine lv_iload_n C.1 C.2.1 dX11_tollOf_123 rfl (lv_at hl 2 rfl) ?_
        refine ma_meter C hw hj rfl dX11_tollOf_124 ?_
        refine lv_iadd C.1 C.2.1 dX11_tollOf_125 ?_
        exact ct_i C hr hlocks (by rw [show tR 3 F j h = (if 20 ≤ h then 2 * (tP 3 F j + 10) else if 6 ≤ h then tP 3 F j + 10 + F j 9 else 2 * (tP 3 F j + 10)) from rfl, if_neg h1, if_pos h2]) (fun t ht hW => m_post hw ht hW) hS (Nat.le_of_ble_eq_true rfl) (Nat.le_of_ble_eq_true rfl) dX11_tollOf_126
      · refine lv_iconst (v := 2) C.1 C.2.1 dX11_tollOf_112 (by decide) ?_
        refine lv_iload_n C.1 C.2.1 dX11_tollOf_113 rfl (lv_at hl 0 rfl) ?_
        refine lv_imul C.1 C.2.1 dX11_tollOf_114 ?_
        refine lv_goto (tgt := 126) C.1 C.2.1 dX11_tollOf_115 (by decide) ?_
        exact ct_i C hr hlocks (by rw [show tR 3 F j h = (if 20 ≤ h then 2 * (tP 3 F j + 10) else if 6 ≤ h then tP 3 F j + 10 + F j 9 else 2 * (tP 3 F j + 10)) from rfl, if_neg h1, if_neg h2]) (fun t ht hW => m_post hw ht hW) hS (Nat.le_of_ble_eq_true rfl) (Nat.le_of_ble_eq_true rfl) dX11_tollOf_126
  · refine lv_aload_n C.1 C.2.1 dX11_tollOf_0 rfl (lv_at hl 0 rfl) ?_
    refine lv_iconst (v := 0) C.1 C.2.1 dX11_tollOf_1 (by decide) ?_
    refine mp_dv C hw hS tb_725 (by decide) dX11_tollOf_2 (fun H locs hw hS => ?_)
    refine lv_aload_n C.1 C.2.1 dX11_tollOf_5 rfl (lv_at hl 0 rfl) ?_
    refine mg_get C hw 2 (by decide) tb_710 rfl dX11_tollOf_6 ?_
    refine lv_iload_n C.1 C.2.1 dX11_tollOf_9 rfl (lv_at hl 1 rfl) ?_
    refine ma_kind C hw hj rfl dX11_tollOf_10 ?_
    rw [hF]
    refine lv_tableIn (tgt := 249) C.1 C.2.1 dX11_tollOf_11 (by decide) (by decide) rfl (by decide) ?_
    refine lv_aload_n C.1 C.2.1 dX11_tollOf_249 rfl (lv_at hl 0 rfl) ?_
    refine lv_iload_n C.1 C.2.1 dX11_tollOf_250 rfl (lv_at hl 1 rfl) ?_
    refine ct_ret (ct_V0 C (c_X11_plainToll l D A q _ _ _ _ _ _ _ _ _ j _ hj hk hF) Mp_bl (Or.inl rfl) tb_800 tb_3 ⟨Nat.le_of_ble_eq_true rfl, Nat.le_of_ble_eq_true rfl⟩ tb_797 ⟨by decide, by decide⟩ tbp_6 tb_799 (m_recv hw) (fun U hU hW => m_post hw hU hW) (sig_code (C.2.2.2.2 _ tb_800)) (by show _ = some 1; decide +kernel) hl.1 rfl (Nat.le_of_ble_eq_true rfl) dX11_tollOf_251 ⟨Nat.le_of_ble_eq_true rfl, Nat.le_of_ble_eq_true rfl⟩) hS (fun _ h => h) (fun t H locs ht hvm hw _ _ hS => ?_)
    have hw := m_back hw ht hvm
    exact ct_i C hr hlocks rfl (fun t ht hW => m_post hw ht hW) hS (Nat.le_of_ble_eq_true rfl) (Nat.le_of_ble_eq_true rfl) dX11_tollOf_254
  · refine lv_aload_n C.1 C.2.1 dX11_tollOf_0 rfl (lv_at hl 0 rfl) ?_
    refine lv_iconst (v := 0) C.1 C.2.1 dX11_tollOf_1 (by decide) ?_
    refine mp_dv C hw hS tb_725 (by decide) dX11_tollOf_2 (fun H locs hw hS => ?_)
    refine lv_aload_n C.1 C.2.1 dX11_tollOf_5 rfl (lv_at hl 0 rfl) ?_
    refine mg_get C hw 2 (by decide) tb_710 rfl dX11_tollOf_6 ?_
    refine lv_iload_n C.1 C.2.1 dX11_tollOf_9 rfl (lv_at hl 1 rfl) ?_
    refine ma_kind C hw hj rfl dX11_tollOf_10 ?_
    rw [hF]
    refine lv_tableIn (tgt := 127) C.1 C.2.1 dX11_tollOf_11 (by decide) (by decide) rfl (by decide) ?_
    refine m_bump C hw tb_720 (lv_at hl 0 rfl) dX11_tollOf_127 dX11_tollOf_128 ?_
    refine lv_iconst (v := 5) C.1 C.2.1 dX11_tollOf_131 (by decide) ?_
    refine m_inc C hw hS (j := 5) (by decide) (by decide) dX11_tollOf_132 dX11_tollOf_133 dX11_tollOf_134 dX11_tollOf_135 dX11_tollOf_136 (fun H locs hw hS => ?_)
    refine lv_aload_n C.1 C.2.1 dX11_tollOf_137 rfl (lv_at hl 0 rfl) ?_
    refine lv_iload_n C.1 C.2.1 dX11_tollOf_138 rfl (lv_at hl 1 rfl) ?_
    refine ct_ret (ct_V0 C (c_X11_plainToll l D A q _ _ _ _ _ _ _ _ _ j _ hj hk hF) Mp_bl (Or.inl rfl) tb_800 tb_3 ⟨Nat.le_of_ble_eq_true rfl, Nat.le_of_ble_eq_true rfl⟩ tb_797 ⟨by decide, by decide⟩ tbp_6 tb_799 (m_recv hw) (fun U hU hW => m_post hw hU hW) (sig_code (C.2.2.2.2 _ tb_800)) (by show _ = some 1; decide +kernel) hl.1 rfl (Nat.le_of_ble_eq_true rfl) dX11_tollOf_139 ⟨Nat.le_of_ble_eq_true rfl, Nat.le_of_ble_eq_true rfl⟩) hS (fun _ h => h) (fun t H locs ht hvm hw _ _ hS => ?_)
    have hw := m_back hw ht hvm
    refine lv_bipush (v := 50) C.1 C.2.1 dX11_tollOf_142 (by decide) ?_
    refine lv_iadd C.1 C.2.1 dX11_tollOf_144 ?_
    exact ct_i C hr hlocks rfl (fun t ht hW => m_post hw ht hW) hS (Nat.le_of_ble_eq_true rfl) (Nat.le_of_ble_eq_true rfl) dX11_tollOf_145
  · refine lv_aload_n C.1 C.2.1 dX11_tollOf_0 rfl (lv_at hl 0 rfl) ?_
    refine lv_iconst (v := 0) C.1 C.2.1 dX11_tollOf_1 (by decide) ?_
    refine mp_dv C hw hS tb_725 (by decide) dX11_tollOf_2 (fun H locs hw hS => ?_)
    refine lv_aload_n C.1 C.2.1 dX11_tollOf_5 rfl (lv_at hl 0 rfl) ?_
    refine mg_get C hw 2 (by decide) tb_710 rfl dX11_tollOf_6 ?_
    refine lv_iload_n C.1 C.2.1 dX11_tollOf_9 rfl (lv_at hl 1 rfl) ?_
    refine ma_kind C hw hj rfl dX11_tollOf_10 ?_
    rw [hF]
    refine lv_tableIn (tgt := 249) C.1 C.2.1 dX11_tollOf_11 (by decide) (by decide) rfl (by decide) ?_
    refine lv_aload_n C.1 C.2.1 dX11_tollOf_249 rfl (lv_at hl 0 rfl) ?_
    refine lv_iload_n C.1 C.2.1 dX11_tollOf_250 rfl (lv_at hl 1 rfl) ?_
    refine ct_ret (ct_V0 C (c_X11_plainToll l D A q _ _ _ _ _ _ _ _ _ j _ hj hk hF) Mp_bl (Or.inl rfl) tb_800 tb_3 ⟨Nat.le_of_ble_eq_true rfl, Nat.le_of_ble_eq_true rfl⟩ tb_797 ⟨by decide, by decide⟩ tbp_6 tb_799 (m_recv hw) (fun U hU hW => m_post hw hU hW) (sig_code (C.2.2.2.2 _ tb_800)) (by show _ = some 1; decide +kernel) hl.1 rfl (Nat.le_of_ble_eq_true rfl) dX11_tollOf_251 ⟨Nat.le_of_ble_eq_true rfl, Nat.le_of_ble_eq_true rfl⟩) hS (fun _ h => h) (fun t H locs ht hvm hw _ _ hS => ?_)
    have hw := m_back hw ht hvm
    exact ct_i C hr hlocks rfl (fun t ht hW => m_post hw ht hW) hS (Nat.le_of_ble_eq_true rfl) (Nat.le_of_ble_eq_true rfl) dX11_tollOf_254
  · refine lv_aload_n C.1 C.2.1 dX11_tollOf_0 rfl (lv_at hl 0 rfl) ?_
    refine lv_iconst (v := 0) C.1 C.2.1 dX11_tollOf_1 (by decide) ?_
    refine mp_dv C hw hS tb_725 (by decide) dX11_tollOf_2 (fun H locs hw hS => ?_)
    refine lv_aload_n C.1 C.2.1 dX11_tollOf_5 rfl (lv_at hl 0 rfl) ?_
    refine mg_get C hw 2 (by decide) tb_710 rfl dX11_tollOf_6 ?_
    refine lv_iload_n C.1 C.2.1 dX11_tollOf_9 rfl (lv_at hl 1 rfl) ?_
    refine ma_kind C hw hj rfl dX11_tollOf_10 ?_
    rw [hF]
    refine lv_tableIn (tgt := 146) C.1 C.2.1 dX11_tollOf_11 (by decide) (by decide) rfl (by decide) ?_
    refine m_bump C hw tb_720 (lv_at hl 0 rfl) dX11_tollOf_146 dX11_tollOf_147 ?_
    refine lv_bipush (v := 7) C.1 C.2.1 dX11_tollOf_150 (by decide) ?_
    refine m_inc C hw hS (j := 7) (by decide) (by decide) dX11_tollOf_152 dX11_tollOf_153 dX11_tollOf_154 dX11_tollOf_155 dX11_tollOf_156 (fun H locs hw hS => ?_)
    refine lv_iload_n C.1 C.2.1 dX11_tollOf_157 rfl (lv_at hl 2 rfl) ?_
    refine lv_bipush (v := 22) C.1 C.2.1 dX11_tollOf_158 (by decide) ?_
    refine lv_icmp_ge (tgt := 168) C.1 C.2.1 dX11_tollOf_160 (by decide) (fun h1 => ?_) (fun h1 => ?_)
    · refine lv_iconst (v := 0) C.1 C.2.1 dX11_tollOf_168 (by decide) ?_
      refine lv_goto (tgt := 177) C.1 C.2.1 dX11_tollOf_169 (by decide) ?_
      rw [show tR 7 F j h = _ from (show tR 7 F j h = (if 22 ≤ h then 0 else if 5 ≤ h then tP 7 F j else 0) from rfl).trans (if_pos h1), show tB 7 h B = _ from (show tB 7 h B = (if 22 ≤ h then iB B 7 else if 5 ≤ h then tPB 7 (iB B 7) else iB B 7) from rfl).trans (if_pos h1)]
      exact ct_i C hr hlocks rfl (fun t ht hW => m_post hw ht hW) hS (Nat.le_of_ble_eq_true rfl) (Nat.le_of_ble_eq_true rfl) dX11_tollOf_177
    · refine lv_iload_n C.1 C.2.1 dX11_tollOf_163 rfl (lv_at hl 2 rfl) ?_
      refine lv_iconst (v := 5) C.1 C.2.1 dX11_tollOf_164 (by decide) ?_
      refine lv_icmp_ge (tgt := 172) C.1 C.2.1 dX11_tollOf_165 (by decide) (fun h2 => ?_) (fun h2 => ?_)
      · refine lv_aload_n C.1 C.2.1 dX11_tollOf_172 rfl (lv_at hl 0 rfl) ?_
        refine lv_iload_n C.1 C.2.1 dX11_tollOf_173 rfl (lv_at hl 1 rfl) ?_
        refine ct_ret (ct_V0 C (c_X11_plainToll l D A q _ _ _ _ _ _ _ _ _ j _ hj hk hF) Mp_bl (Or.inl rfl) tb_800 tb_3 ⟨Nat.le_of_ble_eq_true rfl, Nat.le_of_ble_eq_true rfl⟩ tb_797 ⟨by decide, by decide⟩ tbp_6 tb_799 (m_recv hw) (fun U hU hW => m_post hw hU hW) (sig_code (C.2.2.2.2 _ tb_800)) (by show _ = some 1; decide +kernel) hl.1 rfl (Nat.le_of_ble_eq_true rfl) dX11_tollOf_174 ⟨Nat.le_of_ble_eq_true rfl, Nat.le_of_ble_eq_true rfl⟩) hS (fun _ h => h) (fun t H locs ht hvm hw _ _ hS => ?_)
        have hw := m_back hw ht hvm
        rw [show tR 7 F j h = _ from (show tR 7 F j h = (if 22 ≤ h then 0 else if 5 ≤ h then tP 7 F j else 0) from rfl).trans ((if_neg h1).trans (if_pos h2)), show tB 7 h B = _ from (show tB 7 h B = (if 22 ≤ h then iB B 7 else if 5 ≤ h then tPB 7 (iB B 7) else iB B 7) from rfl).trans ((if_neg h1).trans (if_pos h2))]
        exact ct_i C hr hlocks rfl (fun t ht hW => m_post hw ht hW) hS (Nat.le_of_ble_eq_true rfl) (Nat.le_of_ble_eq_true rfl) dX11_tollOf_177
      · refine lv_iconst (v := 0) C.1 C.2.1 dX11_tollOf_168 (by decide) ?_
        refine lv_goto (tgt := 177) C.1 C.2.1 dX11_tollOf_169 (by decide) ?_
        rw [show tR 7 F j h = _ from (show tR 7 F j h = (if 22 ≤ h then 0 else if 5 ≤ h then tP 7 F j else 0) from rfl).trans ((if_neg h1).trans (if_neg h2)), show tB 7 h B = _ from (show tB 7 h B = (if 22 ≤ h then iB B 7 else if 5 ≤ h then tPB 7 (iB B 7) else iB B 7) from rfl).trans ((if_neg h1).trans (if_neg h2))]
        exact ct_i C hr hlocks rfl (fun t ht hW => m_post hw ht hW) hS (Nat.le_of_ble_eq_true rfl) (Nat.le_of_ble_eq_true rfl) dX11_tollOf_177
  · refine lv_aload_n C.1 C.2.1 dX11_tollOf_0 rfl (lv_at hl 0 rfl) ?_
    refine lv_iconst (v := 0) C.1 C.2.1 dX11_tollOf_1 (by decide) ?_
    refine mp_dv C hw hS tb_725 (by decide) dX11_tollOf_2 (fun H locs hw hS => ?_)
    refine lv_aload_n C.1 C.2.1 dX11_tollOf_5 rfl (lv_at hl 0 rfl) ?_
    refine mg_get C hw 2 (by decide) tb_710 rfl dX11_tollOf_6 ?_
    refine lv_iload_n C.1 C.2.1 dX11_tollOf_9 rfl (lv_at hl 1 rfl) ?_
    refine ma_kind C hw hj rfl dX11_tollOf_10 ?_
    rw [hF]
    refine lv_tableIn (tgt := 178) C.1 C.2.1 dX11_tollOf_11 (by decide) (by decide) rfl (by decide) ?_
    refine m_bump C hw tb_720 (lv_at hl 0 rfl) dX11_tollOf_178 dX11_tollOf_179 ?_
    refine lv_bipush (v := 8) C.1 C.2.1 dX11_tollOf_182 (by decide) ?_
    refine m_inc C hw hS (j := 8) (by decide) (by decide) dX11_tollOf_184 dX11_tollOf_185 dX11_tollOf_186 dX11_tollOf_187 dX11_tollOf_188 (fun H locs hw hS => ?_)
    refine lv_aload_n C.1 C.2.1 dX11_tollOf_189 rfl (lv_at hl 0 rfl) ?_
    refine lv_aload_n C.1 C.2.1 dX11_tollOf_190 rfl (lv_at hl 0 rfl) ?_
    refine mg_get C hw 4 (by decide) tb_712 rfl dX11_tollOf_191 ?_
    refine lv_iload_n C.1 C.2.1 dX11_tollOf_194 rfl (lv_at hl 1 rfl) ?_
    refine ma_load C hw hj rfl dX11_tollOf_195 ?_
    refine lv_if_ne (tgt := 203) C.1 C.2.1 dX11_tollOf_196 (by decide) (fun h1 => ?_) (fun h1 => ?_)
    · refine lv_iconst (v := 0) C.1 C.2.1 dX11_tollOf_203 (by decide) ?_
      refine mp_dv C hw hS tb_725 (by decide) dX11_tollOf_204 (fun H locs hw hS => ?_)
      refine lv_aload_n C.1 C.2.1 dX11_tollOf_207 rfl (lv_at hl 0 rfl) ?_
      refine lv_dup C.1 C.2.1 dX11_tollOf_208 rfl ?_
      refine mg_get C hw 16 (by decide) tb_724 rfl dX11_tollOf_209 ?_
      refine lv_aload_n C.1 C.2.1 dX11_tollOf_212 rfl (lv_at hl 0 rfl) ?_
      refine mg_get C hw 17 (by decide) tb_725 rfl dX11_tollOf_213 ?_
      refine lv_if_eq (tgt := 223) C.1 C.2.1 dX11_tollOf_216 (by decide) (fun _ => ?_) (fun h9 => absurd (by decide) h9)
      refine lv_iconst (v := 0) C.1 C.2.1 dX11_tollOf_223 (by decide) ?_
      refine lv_iadd C.1 C.2.1 dX11_tollOf_224 ?_
      refine mp_div C hw hS tb_724 dX11_tollOf_225 (fun H locs hw hS => ?_)
      refine lv_aload_n C.1 C.2.1 dX11_tollOf_228 rfl (lv_at hl 0 rfl) ?_
      refine mg_get C hw 17 (by decide) tb_725 rfl dX11_tollOf_229 ?_
      refine lv_if_eq (tgt := 239) C.1 C.2.1 dX11_tollOf_232 (by decide) (fun _ => ?_) (fun h9 => absurd (by decide) h9)
      refine lv_bipush (v := 100) C.1 C.2.1 dX11_tollOf_239 (by decide) ?_
      refine lv_aload_n C.1 C.2.1 dX11_tollOf_241 rfl (lv_at hl 0 rfl) ?_
      refine mg_get C hw 4 (by decide) tb_712 rfl dX11_tollOf_242 ?_
      refine lv_iload_n C.1 C.2.1 dX11_tollOf_245 rfl (lv_at hl 1 rfl) ?_
      refine ma_load C hw hj rfl dX11_tollOf_246 ?_
      refine lv_idiv C.1 C.2.1 dX11_tollOf_247 h1 ?_
      have hx : tX 8 F j = false := decide_eq_false (fun q => h1 q.2)
      rw [show tG 8 F j G = G from if_neg (by rw [hx]; decide), show b2i (tX 8 F j) = 0 by rw [hx]; rfl, show tR 8 F j h = 100 / F j 5 from (show tR 8 F j h = (if F j 5 = 0 then 0 else 100 / F j 5) from rfl).trans (if_neg h1)]
      rw [show upd G 6 (G 6 + 0) = G by funext a; unfold upd; by_cases q : a = 6; rw [if_pos q, q, Int32.add_zero]; rw [if_neg q]] at hw
      exact ct_i C hr hlocks rfl (fun t ht hW => m_post hw ht hW) hS (Nat.le_of_ble_eq_true rfl) (Nat.le_of_ble_eq_true rfl) dX11_tollOf_248
    · refine lv_iconst (v := 1) C.1 C.2.1 dX11_tollOf_199 (by decide) ?_
      refine lv_goto (tgt := 204) C.1 C.2.1 dX11_tollOf_200 (by decide) ?_
      refine mp_dv C hw hS tb_725 (by decide) dX11_tollOf_204 (fun H locs hw hS => ?_)
      refine lv_aload_n C.1 C.2.1 dX11_tollOf_207 rfl (lv_at hl 0 rfl) ?_
      refine lv_dup C.1 C.2.1 dX11_tollOf_208 rfl ?_
      refine mg_get C hw 16 (by decide) tb_724 rfl dX11_tollOf_209 ?_
      refine lv_aload_n C.1 C.2.1 dX11_tollOf_212 rfl (lv_at hl 0 rfl) ?_
      refine mg_get C hw 17 (by decide) tb_725 rfl dX11_tollOf_213 ?_
      refine lv_if_eq (tgt := 223) C.1 C.2.1 dX11_tollOf_216 (by decide) (fun h9 => absurd h9 (by decide)) (fun _ => ?_)
      refine lv_iconst (v := 1) C.1 C.2.1 dX11_tollOf_219 (by decide) ?_
      refine lv_goto (tgt := 224) C.1 C.2.1 dX11_tollOf_220 (by decide) ?_
      refine lv_iadd C.1 C.2.1 dX11_tollOf_224 ?_
      refine mp_div C hw hS tb_724 dX11_tollOf_225 (fun H locs hw hS => ?_)
      refine lv_aload_n C.1 C.2.1 dX11_tollOf_228 rfl (lv_at hl 0 rfl) ?_
      refine mg_get C hw 17 (by decide) tb_725 rfl dX11_tollOf_229 ?_
      refine lv_if_eq (tgt := 239) C.1 C.2.1 dX11_tollOf_232 (by decide) (fun h9 => absurd h9 (by decide)) (fun _ => ?_)
      refine lv_iconst (v := 0) C.1 C.2.1 dX11_tollOf_235 (by decide) ?_
      refine lv_goto (tgt := 248) C.1 C.2.1 dX11_tollOf_236 (by decide) ?_
      have hx : tX 8 F j = true := decide_eq_true ⟨rfl, h1⟩
      rw [show tG 8 F j G = upd G 6 (G 6 + 1) from if_pos hx, show b2i (tX 8 F j) = 1 by rw [hx]; rfl, show tR 8 F j h = 0 from (show tR 8 F j h = (if F j 5 = 0 then 0 else 100 / F j 5) from rfl).trans (if_pos h1)]
      exact ct_i C hr hlocks rfl (fun t ht hW => m_post hw ht hW) hS (Nat.le_of_ble_eq_true rfl) (Nat.le_of_ble_eq_true rfl) dX11_tollOf_248
set_option maxHeartbeats 400000 in
set_option maxRecDepth 100000 in
/-- REBATE -/
theorem c_X11_rebateOf (l : Launch) (D : va_G) (A : Nat → Prop) (q : Nat → Nat) (cI n : Nat) (F : Nat → Nat → Int32) (B G : Nat → Int32) (cnt : Int32) (r : Nat → Int32) (thr dv : Int32) (j k : Nat) (hj : j < 24) (hk : k < 9) (hF : F j 2 = nI k) (hs : F j 4 ≤ 100) : Ct l yX11_rebateOf (.code yX11_rebateOf cX11_rebateOf 3 (some .int)) ({ frames := 1, cells := 0, slots := 0, locals := 22 }) A [.ref (q 0), .int (nI j)] (Mp D A q cI n F B G cnt r thr dv) (.inl (some (.int (rR k F j)))) (Mp D A q cI n F (rB k B) G cnt r thr dv) := by
  refine ct_mk (by decide) (Nat.le_of_ble_eq_true rfl) (fun p e s m below meth c ls C hr hlocks hnm htab hP hl => ?_)
  have hw := hP
  have hS : va_S A s.heap s.heap [] := va_S.rf
  have hl : lv_has ls 3 [(0, .ref (q 0)), (1, .int (nI j))] := hl
  rcases (show k = 0 ∨ k = 1 ∨ k = 2 ∨ k = 3 ∨ k = 4 ∨ k = 5 ∨ k = 6 ∨ k = 7 ∨ k = 8 by omega) with rfl | rfl | rfl | rfl | rfl | rfl | rfl | rfl | rfl
  · refine m_bump C hw tb_720 (lv_at hl 0 rfl) dX11_rebateOf_0 dX11_rebateOf_1 ?_
    refine lv_iconst (v := 0) C.1 C.2.1 dX11_rebateOf_4 (by decide) ?_
    refine m_inc C hw hS (j := 0) (by decide) (by decide) dX11_rebateOf_5 dX11_rebateOf_6 dX11_rebateOf_7 dX11_rebateOf_8 dX11_rebateOf_9 (fun H locs hw hS => ?_)
    refine lv_aload_n C.1 C.2.1 dX11_rebateOf_10 rfl (lv_at hl 0 rfl) ?_
    refine mg_get C hw 5 (by decide) tb_713 rfl dX11_rebateOf_11 ?_
    refine lv_iload_n C.1 C.2.1 dX11_rebateOf_14 rfl (lv_at hl 1 rfl) ?_
    refine ma_share C hw hj rfl dX11_rebateOf_15 ?_
    refine lv_istore_n (lv' := [(2, .int (F j 4)), (0, .ref (q 0)), (1, .int (nI j))]) C.1 C.2.1 dX11_rebateOf_16 rfl hl (by decide) rfl (fun ls hl => ?_)
    refine lv_aload_n C.1 C.2.1 dX11_rebateOf_17 rfl (lv_at hl 1 rfl) ?_
    refine mg_get C hw 2 (by decide) tb_710 rfl dX11_rebateOf_18 ?_
    refine lv_iload_n C.1 C.2.1 dX11_rebateOf_21 rfl (lv_at hl 2 rfl) ?_
    refine ma_kind C hw hj rfl dX11_rebateOf_22 ?_
    rw [hF]
    refine lv_iconst (v := 2) C.1 C.2.1 dX11_rebateOf_23 (by decide) ?_
    refine lv_iconst (v := 3) C.1 C.2.1 dX11_rebateOf_24 (by decide) ?_
    refine ct_ret (ct_S C (c_X11_within l (nI 0) (2) (3)) Tr_bl (Or.inl rfl) tb_773 tb_3 ⟨Nat.le_of_ble_eq_true rfl, Nat.le_of_ble_eq_true rfl⟩ tb_771 ⟨by decide, by decide⟩ tb_772 (fun _ _ _ => trivial) (by show _ = some 3; decide +kernel) hl.1 rfl (Nat.le_of_ble_eq_true rfl) dX11_rebateOf_25 ⟨Nat.le_of_ble_eq_true rfl, Nat.le_of_ble_eq_true rfl⟩) hS (fun _ h => False.elim h) (fun t H locs ht hvm _ _ hk hS => ?_)
    have hw := m_kept hw hk
    refine lv_if_eq (tgt := 48) C.1 C.2.1 dX11_rebateOf_28 (by decide) (fun _ => ?_) (fun h9 => absurd (by decide) h9)
    refine lv_aload_n C.1 C.2.1 dX11_rebateOf_48 rfl (lv_at hl 1 rfl) ?_
    refine mg_get C hw 2 (by decide) tb_710 rfl dX11_rebateOf_49 ?_
    refine lv_iload_n C.1 C.2.1 dX11_rebateOf_52 rfl (lv_at hl 2 rfl) ?_
    refine ma_kind C hw hj rfl dX11_rebateOf_53 ?_
    rw [hF]
    refine lv_bipush (v := 7) C.1 C.2.1 dX11_rebateOf_54 (by decide) ?_
    refine lv_icmp_ne (tgt := 74) C.1 C.2.1 dX11_rebateOf_56 (by decide) (fun _ => ?_) (fun h9 => absurd h9 (by decide))
    refine lv_iload_n C.1 C.2.1 dX11_rebateOf_74 rfl (lv_at hl 0 rfl) ?_
    refine lv_bipush (v := 100) C.1 C.2.1 dX11_rebateOf_75 (by decide) ?_
    refine lv_icmp_le (tgt := 85) C.1 C.2.1 dX11_rebateOf_77 (by decide) (fun h1 => ?_) (fun h1 => ?_)
    · refine lv_iload_n C.1 C.2.1 dX11_rebateOf_85 rfl (lv_at hl 0 rfl) ?_
      exact ct_i C hr hlocks rfl (fun t ht hW => m_post hw ht hW) hS (Nat.le_of_ble_eq_true rfl) (Nat.le_of_ble_eq_true rfl) dX11_rebateOf_86
    · refine lv_bipush (v := 100) C.1 C.2.1 dX11_rebateOf_80 (by decide) ?_
      refine lv_goto (tgt := 86) C.1 C.2.1 dX11_rebateOf_82 (by decide) ?_
      exact absurd hs h1
  · refine m_bump C hw tb_720 (lv_at hl 0 rfl) dX11_rebateOf_0 dX11_rebateOf_1 ?_
    refine lv_iconst (v := 0) C.1 C.2.1 dX11_rebateOf_4 (by decide) ?_
    refine m_inc C hw hS (j := 0) (by decide) (by decide) dX11_rebateOf_5 dX11_rebateOf_6 dX11_rebateOf_7 dX11_rebateOf_8 dX11_rebateOf_9 (fun H locs hw hS => ?_)
    refine lv_aload_n C.1 C.2.1 dX11_rebateOf_10 rfl (lv_at hl 0 rfl) ?_
    refine mg_get C hw 5 (by decide) tb_713 rfl dX11_rebateOf_11 ?_
    refine lv_iload_n C.1 C.2.1 dX11_rebateOf_14 rfl (lv_at hl 1 rfl) ?_
    refine ma_share C hw hj rfl dX11_rebateOf_15 ?_
    refine lv_istore_n (lv' := [(2, .int (F j 4)), (0, .ref (q 0)), (1, .int (nI j))]) C.1 C.2.1 dX11_rebateOf_16 rfl hl (by decide) rfl (fun ls hl => ?_)
    refine lv_aload_n C.1 C.2.1 dX11_rebateOf_17 rfl (lv_at hl 1 rfl) ?_
    refine mg_get C hw 2 (by decide) tb_710 rfl dX11_rebateOf_18 ?_
    refine lv_iload_n C.1 C.2.1 dX11_rebateOf_21 rfl (lv_at hl 2 rfl) ?_
    refine ma_kind C hw hj rfl dX11_rebateOf_22 ?_
    rw [hF]
    refine lv_iconst (v := 2) C.1 C.2.1 dX11_rebateOf_23 (by decide) ?_
    refine lv_iconst (v := 3) C.1 C.2.1 dX11_rebateOf_24 (by decide) ?_
    refine ct_ret (ct_S C (c_X11_within l (nI 1) (2) (3)) Tr_bl (Or.inl rfl) tb_773 tb_3 ⟨Nat.le_of_ble_eq_true rfl, Nat.le_of_ble_eq_true rfl⟩ tb_771 ⟨by decide, by decide⟩ tb_772 (fun _ _ _ => trivial) (by show _ = some 3; decide +kernel) hl.1 rfl (Nat.le_of_ble_eq_true rfl) dX11_rebateOf_25 ⟨Nat.le_of_ble_eq_true rfl, Nat.le_of_ble_eq_true rfl⟩) hS (fun _ h => False.elim h) (fun t H locs ht hvm _ _ hk hS => ?_)
    have hw := m_kept hw hk
    refine lv_if_eq (tgt := 48) C.1 C.2.1 dX11_rebateOf_28 (by decide) (fun _ => ?_) (fun h9 => absurd (by decide) h9)
    refine lv_aload_n C.1 C.2.1 dX11_rebateOf_48 rfl (lv_at hl 1 rfl) ?_
    refine mg_get C hw 2 (by decide) tb_710 rfl dX11_rebateOf_49 ?_
    refine lv_iload_n C.1 C.2.1 dX11_rebateOf_52 rfl (lv_at hl 2 rfl) ?_
    refine ma_kind C hw hj rfl dX11_rebateOf_53 ?_
    rw [hF]
    refine lv_bipush (v := 7) C.1 C.2.1 dX11_rebateOf_54 (by decide) ?_
    refine lv_icmp_ne (tgt := 74) C.1 C.2.1 dX11_rebateOf_56 (by decide) (fun _ => ?_) (fun h9 => absurd h9 (by decide))
    refine lv_iload_n C.1 C.2.1 dX11_rebateOf_74 rfl (lv_at hl 0 rfl) ?_
    refine lv_bipush (v := 100) C.1 C.2.1 dX11_rebateOf_75 (by decide) ?_
    refine lv_icmp_le (tgt := 85) C.1 C.2.1 dX11_rebateOf_77 (by decide) (fun h1 => ?_) (fun h1 => ?_)
    · refine lv_iload_n C.1 C.2.1 dX11_rebateOf_85 rfl (lv_at hl 0 rfl) ?_
      exact ct_i C hr hlocks rfl (fun t ht hW => m_post hw ht hW) hS (Nat.le_of_ble_eq_true rfl) (Nat.le_of_ble_eq_true rfl) dX11_rebateOf_86
    · refine lv_bipush (v := 100) C.1 C.2.1 dX11_rebateOf_80 (by decide) ?_
      refine lv_goto (tgt := 86) C.1 C.2.1 dX11_rebateOf_82 (by decide) ?_
      exact absurd hs h1
  · refine m_bump C hw tb_720 (lv_at hl 0 rfl) dX11_rebateOf_0 dX11_rebateOf_1 ?_
    refine lv_iconst (v := 0) C.1 C.2.1 dX11_rebateOf_4 (by decide) ?_
    refine m_inc C hw hS (j := 0) (by decide) (by decide) dX11_rebateOf_5 dX11_rebateOf_6 dX11_rebateOf_7 dX11_rebateOf_8 dX11_rebateOf_9 (fun H locs hw hS => ?_)
    refine lv_aload_n C.1 C.2.1 dX11_rebateOf_10 rfl (lv_at hl 0 rfl) ?_
    refine mg_get C hw 5 (by decide) tb_713 rfl dX11_rebateOf_11 ?_
    refine lv_iload_n C.1 C.2.1 dX11_rebateOf_14 rfl (lv_at hl 1 rfl) ?_
    refine ma_share C hw hj rfl dX11_rebateOf_15 ?_
    refine lv_istore_n (lv' := [(2, .int (F j 4)), (0, .ref (q 0)), (1, .int (nI j))]) C.1 C.2.1 dX11_rebateOf_16 rfl hl (by decide) rfl (fun ls hl => ?_)
    refine lv_aload_n C.1 C.2.1 dX11_rebateOf_17 rfl (lv_at hl 1 rfl) ?_
    refine mg_get C hw 2 (by decide) tb_710 rfl dX11_rebateOf_18 ?_
    refine lv_iload_n C.1 C.2.1 dX11_rebateOf_21 rfl (lv_at hl 2 rfl) ?_
    refine ma_kind C hw hj rfl dX11_rebateOf_22 ?_
    rw [hF]
    refine lv_iconst (v := 2) C.1 C.2.1 dX11_rebateOf_23 (by decide) ?_
    refine lv_iconst (v := 3) C.1 C.2.1 dX11_rebateOf_24 (by decide) ?_
    refine ct_ret (ct_S C (c_X11_within l (nI 2) (2) (3)) Tr_bl (Or.inl rfl) tb_773 tb_3 ⟨Nat.le_of_ble_eq_true rfl, Nat.le_of_ble_eq_true rfl⟩ tb_771 ⟨by decide, by decide⟩ tb_772 (fun _ _ _ => trivial) (by show _ = some 3; decide +kernel) hl.1 rfl (Nat.le_of_ble_eq_true rfl) dX11_rebateOf_25 ⟨Nat.le_of_ble_eq_true rfl, Nat.le_of_ble_eq_true rfl⟩) hS (fun _ h => False.elim h) (fun t H locs ht hvm _ _ hk hS => ?_)
    have hw := m_kept hw hk
    refine lv_if_eq (tgt := 48) C.1 C.2.1 dX11_rebateOf_28 (by decide) (fun h9 => absurd h9 (by decide)) (fun _ => ?_)
    refine m_bump C hw tb_720 (lv_at hl 1 rfl) dX11_rebateOf_31 dX11_rebateOf_32 ?_
    refine lv_iconst (v := 2) C.1 C.2.1 dX11_rebateOf_35 (by decide) ?_
    refine m_inc C hw hS (j := 2) (by decide) (by decide) dX11_rebateOf_36 dX11_rebateOf_37 dX11_rebateOf_38 dX11_rebateOf_39 dX11_rebateOf_40 (fun H locs hw hS => ?_)
    refine lv_iload_n C.1 C.2.1 dX11_rebateOf_41 rfl (lv_at hl 0 rfl) ?_
    refine lv_iconst (v := 5) C.1 C.2.1 dX11_rebateOf_42 (by decide) ?_
    refine lv_iadd C.1 C.2.1 dX11_rebateOf_43 ?_
    refine lv_istore_n (lv' := [(2, .int ((F j 4) + (5))), (0, .ref (q 0)), (1, .int (nI j))]) C.1 C.2.1 dX11_rebateOf_44 rfl hl (by decide) rfl (fun ls hl => ?_)
    refine lv_goto (tgt := 74) C.1 C.2.1 dX11_rebateOf_45 (by decide) ?_
    refine lv_iload_n C.1 C.2.1 dX11_rebateOf_74 rfl (lv_at hl 0 rfl) ?_
    refine lv_bipush (v := 100) C.1 C.2.1 dX11_rebateOf_75 (by decide) ?_
    refine lv_icmp_le (tgt := 85) C.1 C.2.1 dX11_rebateOf_77 (by decide) (fun h1 => ?_) (fun h1 => ?_)
    · refine lv_iload_n C.1 C.2.1 dX11_rebateOf_85 rfl (lv_at hl 0 rfl) ?_
      rw [iB_comm B 0 2] at hw
      exact ct_i C hr hlocks (by rw [show rR 2 F j = _ from (show rR 2 F j = mn (F j 4 + 5) 100 from rfl).trans (if_neg (Int32.not_lt.mpr h1))]) (fun t ht hW => m_post hw ht hW) hS (Nat.le_of_ble_eq_true rfl) (Nat.le_of_ble_eq_true rfl) dX11_rebateOf_86
    · refine lv_bipush (v := 100) C.1 C.2.1 dX11_rebateOf_80 (by decide) ?_
      refine lv_goto (tgt := 86) C.1 C.2.1 dX11_rebateOf_82 (by decide) ?_
      rw [iB_comm B 0 2] at hw
      exact ct_i C hr hlocks (by rw [show rR 2 F j = _ from (show rR 2 F j = mn (F j 4 + 5) 100 from rfl).trans (if_pos (Int32.not_le.mp h1))]) (fun t ht hW => m_post hw ht hW) hS (Nat.le_of_ble_eq_true rfl) (Nat.le_of_ble_eq_true rfl) dX11_rebateOf_86
  · refine m_bump C hw tb_720 (lv_at hl 0 rfl) dX11_rebateOf_0 dX11_rebateOf_1 ?_
    refine lv_iconst (v := 0) C.1 C.2.1 dX11_rebateOf_4 (by decide) ?_
    refine m_inc C hw hS (j := 0) (by decide) (by decide) dX11_rebateOf_5 dX11_rebateOf_6 dX11_rebateOf_7 dX11_rebateOf_8 dX11_rebateOf_9 (fun H locs hw hS => ?_)
    refine lv_aload_n C.1 C.2.1 dX11_rebateOf_10 rfl (lv_at hl 0 rfl) ?_
    refine mg_get C hw 5 (by decide) tb_713 rfl dX11_rebateOf_11 ?_
    refine lv_iload_n C.1 C.2.1 dX11_rebateOf_14 rfl (lv_at hl 1 rfl) ?_
    refine ma_share C hw hj rfl dX11_rebateOf_15 ?_
    refine lv_istore_n (lv' := [(2, .int (F j 4)), (0, .ref (q 0)), (1, .int (nI j))]) C.1 C.2.1 dX11_rebateOf_16 rfl hl (by decide) rfl (fun ls hl => ?_)
    refine lv_aload_n C.1 C.2.1 dX11_rebateOf_17 rfl (lv_at hl 1 rfl) ?_
    refine mg_get C hw 2 (by decide) tb_710 rfl dX11_rebateOf_18 ?_
    refine lv_iload_n C.1 C.2.1 dX11_rebateOf_21 rfl (lv_at hl 2 rfl) ?_
    refine ma_kind C hw hj rfl dX11_rebateOf_22 ?_
    rw [hF]
    refine lv_iconst (v := 2) C.1 C.2.1 dX11_rebateOf_23 (by decide) ?_
    refine lv_iconst (v := 3) C.1 C.2.1 dX11_rebateOf_24 (by decide) ?_
    refine ct_ret (ct_S C (c_X11_within l (nI 3) (2) (3)) Tr_bl (Or.inl rfl) tb_773 tb_3 ⟨Nat.le_of_ble_eq_true rfl, Nat.le_of_ble_eq_true rfl⟩ tb_771 ⟨by decide, by decide⟩ tb_772 (fun _ _ _ => trivial) (by show _ = some 3; decide +kernel) hl.1 rfl (Nat.le_of_ble_eq_true rfl) dX11_rebateOf_25 ⟨Nat.le_of_ble_eq_true rfl, Nat.le_of_ble_eq_true rfl⟩) hS (fun _ h => False.elim h) (fun t H locs ht hvm _ _ hk hS => ?_)
    have hw := m_kept hw hk
    refine lv_if_eq (tgt := 48) C.1 C.2.1 dX11_rebateOf_28 (by decide) (fun h9 => absurd h9 (by decide)) (fun _ => ?_)
    refine m_bump C hw tb_720 (lv_at hl 1 rfl) dX11_rebateOf_31 dX11_rebateOf_32 ?_
    refine lv_iconst (v := 2) C.1 C.2.1 dX11_rebateOf_35 (by decide) ?_
    refine m_inc C hw hS (j := 2) (by decide) (by decide) dX11_rebateOf_36 dX11_rebateOf_37 dX11_rebateOf_38 dX11_rebateOf_39 dX11_rebateOf_40 (fun H locs hw hS => ?_)
    refine lv_iload_n C.1 C.2.1 dX11_rebateOf_41 rfl (lv_at hl 0 rfl) ?_
    refine lv_iconst (v := 5) C.1 C.2.1 dX11_rebateOf_42 (by decide) ?_
    refine lv_iadd C.1 C.2.1 dX11_rebateOf_43 ?_
    refine lv_istore_n (lv' := [(2, .int ((F j 4) + (5))), (0, .ref (q 0)), (1, .int (nI j))]) C.1 C.2.1 dX11_rebateOf_44 rfl hl (by decide) rfl (fun ls hl => ?_)
    refine lv_goto (tgt := 74) C.1 C.2.1 dX11_rebateOf_45 (by decide) ?_
    refine lv_iload_n C.1 C.2.1 dX11_rebateOf_74 rfl (lv_at hl 0 rfl) ?_
    refine lv_bipush (v := 100) C.1 C.2.1 dX11_rebateOf_75 (by decide) ?_
    refine lv_icmp_le (tgt := 85) C.1 C.2.1 dX11_rebateOf_77 (by decide) (fun h1 => ?_) (fun h1 => ?_)
    · refine lv_iload_n C.1 C.2.1 dX11_rebateOf_85 rfl (lv_at hl 0 rfl) ?_
      rw [iB_comm B 0 2] at hw
      exact ct_i C hr hlocks (by rw [show rR 3 F j = _ from (show rR 3 F j = mn (F j 4 + 5) 100 from rfl).trans (if_neg (Int32.not_lt.mpr h1))]) (fun t ht hW => m_post hw ht hW) hS (Nat.le_of_ble_eq_true rfl) (Nat.le_of_ble_eq_true rfl) dX11_rebateOf_86
    · refine lv_bipush (v := 100) C.1 C.2.1 dX11_rebateOf_80 (by decide) ?_
      refine lv_goto (tgt := 86) C.1 C.2.1 dX11_rebateOf_82 (by decide) ?_
      rw [iB_comm B 0 2] at hw
      exact ct_i C hr hlocks (by rw [show rR 3 F j = _ from (show rR 3 F j = mn (F j 4 + 5) 100 from rfl).trans (if_pos (Int32.not_le.mp h1))]) (fun t ht hW => m_post hw ht hW) hS (Nat.le_of_ble_eq_true rfl) (Nat.le_of_ble_eq_true rfl) dX11_rebateOf_86
  · refine m_bump C hw tb_720 (lv_at hl 0 rfl) dX11_rebateOf_0 dX11_rebateOf_1 ?_
    refine lv_iconst (v := 0) C.1 C.2.1 dX11_rebateOf_4 (by decide) ?_
    refine m_inc C hw hS (j := 0) (by decide) (by decide) dX11_rebateOf_5 dX11_rebateOf_6 dX11_rebateOf_7 dX11_rebateOf_8 dX11_rebateOf_9 (fun H locs hw hS => ?_)
    refine lv_aload_n C.1 C.2.1 dX11_rebateOf_10 rfl (lv_at hl 0 rfl) ?_
    refine mg_get C hw 5 (by decide) tb_713 rfl dX11_rebateOf_11 ?_
    refine lv_iload_n C.1 C.2.1 dX11_rebateOf_14 rfl (lv_at hl 1 rfl) ?_
    refine ma_share C hw hj rfl dX11_rebateOf_15 ?_
    refine lv_istore_n (lv' := [(2, .int (F j 4)), (0, .ref (q 0)), (1, .int (nI j))]) C.1 C.2.1 dX11_rebateOf_16 rfl hl (by decide) rfl (fun ls hl => ?_)
    refine lv_aload_n C.1 C.2.1 dX11_rebateOf_17 rfl (lv_at hl 1 rfl) ?_
    refine mg_get C hw 2 (by decide) tb_710 rfl dX11_rebateOf_18 ?_
    refine lv_iload_n C.1 C.2.1 dX11_rebateOf_21 rfl (lv_at hl 2 rfl) ?_
    refine ma_kind C hw hj rfl dX11_rebateOf_22 ?_
    rw [hF]
    refine lv_iconst (v := 2) C.1 C.2.1 dX11_rebateOf_23 (by decide) ?_
    refine lv_iconst (v := 3) C.1 C.2.1 dX11_rebateOf_24 (by decide) ?_
    refine ct_ret (ct_S C (c_X11_within l (nI 4) (2) (3)) Tr_bl (Or.inl rfl) tb_773 tb_3 ⟨Nat.le_of_ble_eq_true rfl, Nat.le_of_ble_eq_true rfl⟩ tb_771 ⟨by decide, by decide⟩ tb_772 (fun _ _ _ => trivial) (by show _ = some 3; decide +kernel) hl.1 rfl (Nat.le_of_ble_eq_true rfl) dX11_rebateOf_25 ⟨Nat.le_of_ble_eq_true rfl, Nat.le_of_ble_eq_true rfl⟩) hS (fun _ h => False.elim h) (fun t H locs ht hvm _ _ hk hS => ?_)
    have hw := m_kept hw hk
    refine lv_if_eq (tgt := 48) C.1 C.2.1 dX11_rebateOf_28 (by decide) (fun _ => ?_) (fun h9 => absurd (by decide) h9)
    refine lv_aload_n C.1 C.2.1 dX11_rebateOf_48 rfl (lv_at hl 1 rfl) ?_
    refine mg_get C hw 2 (by decide) tb_710 rfl dX11_rebateOf_49 ?_
    refine lv_iload_n C.1 C.2.1 dX11_rebateOf_52 rfl (lv_at hl 2 rfl) ?_
    refine ma_kind C hw hj rfl dX11_rebateOf_53 ?_
    rw [hF]
    refine lv_bipush (v := 7) C.1 C.2.1 dX11_rebateOf_54 (by decide) ?_
    refine lv_icmp_ne (tgt := 74) C.1 C.2.1 dX11_rebateOf_56 (by decide) (fun _ => ?_) (fun h9 => absurd h9 (by decide))
    refine lv_iload_n C.1 C.2.1 dX11_rebateOf_74 rfl (lv_at hl 0 rfl) ?_
    refine lv_bipush (v := 100) C.1 C.2.1 dX11_rebateOf_75 (by decide) ?_
    refine lv_icmp_le (tgt := 85) C.1 C.2.1 dX11_rebateOf_77 (by decide) (fun h1 => ?_) (fun h1 => ?_)
    · refine lv_iload_n C.1 C.2.1 dX11_rebateOf_85 rfl (lv_at hl 0 rfl) ?_
      exact ct_i C hr hlocks rfl (fun t ht hW => m_post hw ht hW) hS (Nat.le_of_ble_eq_true rfl) (Nat.le_of_ble_eq_true rfl) dX11_rebateOf_86
    · refine lv_bipush (v := 100) C.1 C.2.1 dX11_rebateOf_80 (by decide) ?_
      refine lv_goto (tgt := 86) C.1 C.2.1 dX11_rebateOf_82 (by decide) ?_
      exact absurd hs h1
  · refine m_bump C hw tb_720 (lv_at hl 0 rfl) dX11_rebateOf_0 dX11_rebateOf_1 ?_
    refine lv_iconst (v := 0) C.1 C.2.1 dX11_rebateOf_4 (by decide) ?_
    refine m_inc C hw hS (j := 0) (by decide) (by decide) dX11_rebateOf_5 dX11_rebateOf_6 dX11_rebateOf_7 dX11_rebateOf_8 dX11_rebateOf_9 (fun H locs hw hS => ?_)
    refine lv_aload_n C.1 C.2.1 dX11_rebateOf_10 rfl (lv_at hl 0 rfl) ?_
    refine mg_get C hw 5 (by decide) tb_713 rfl dX11_rebateOf_11 ?_
    refine lv_iload_n C.1 C.2.1 dX11_rebateOf_14 rfl (lv_at hl 1 rfl) ?_
    refine ma_share C hw hj rfl dX11_rebateOf_15 ?_
    refine lv_istore_n (lv' := [(2, .int (F j 4)), (0, .ref (q 0)), (1, .int (nI j))]) C.1 C.2.1 dX11_rebateOf_16 rfl hl (by decide) rfl (fun ls hl => ?_)
    refine lv_aload_n C.1 C.2.1 dX11_rebateOf_17 rfl (lv_at hl 1 rfl) ?_
    refine mg_get C hw 2 (by decide) tb_710 rfl dX11_rebateOf_18 ?_
    refine lv_iload_n C.1 C.2.1 dX11_rebateOf_21 rfl (lv_at hl 2 rfl) ?_
    refine ma_kind C hw hj rfl dX11_rebateOf_22 ?_
    rw [hF]
    refine lv_iconst (v := 2) C.1 C.2.1 dX11_rebateOf_23 (by decide) ?_
    refine lv_iconst (v := 3) C.1 C.2.1 dX11_rebateOf_24 (by decide) ?_
    refine ct_ret (ct_S C (c_X11_within l (nI 5) (2) (3)) Tr_bl (Or.inl rfl) tb_773 tb_3 ⟨Nat.le_of_ble_eq_true rfl, Nat.le_of_ble_eq_true rfl⟩ tb_771 ⟨by decide, by decide⟩ tb_772 (fun _ _ _ => trivial) (by show _ = some 3; decide +kernel) hl.1 rfl (Nat.le_of_ble_eq_true rfl) dX11_rebateOf_25 ⟨Nat.le_of_ble_eq_true rfl, Nat.le_of_ble_eq_true rfl⟩) hS (fun _ h => False.elim h) (fun t H locs ht hvm _ _ hk hS => ?_)
    have hw := m_kept hw hk
    refine lv_if_eq (tgt := 48) C.1 C.2.1 dX11_rebateOf_28 (by decide) (fun _ => ?_) (fun h9 => absurd (by decide) h9)
    refine lv_aload_n C.1 C.2.1 dX11_rebateOf_48 rfl (lv_at hl 1 rfl) ?_
    refine mg_get C hw 2 (by decide) tb_710 rfl dX11_rebateOf_49 ?_
    refine lv_iload_n C.1 C.2.1 dX11_rebateOf_52 rfl (lv_at hl 2 rfl) ?_
    refine ma_kind C hw hj rfl dX11_rebateOf_53 ?_
    rw [hF]
    refine lv_bipush (v := 7) C.1 C.2.1 dX11_rebateOf_54 (by decide) ?_
    refine lv_icmp_ne (tgt := 74) C.1 C.2.1 dX11_rebateOf_56 (by decide) (fun _ => ?_) (fun h9 => absurd h9 (by decide))
    refine lv_iload_n C.1 C.2.1 dX11_rebateOf_74 rfl (lv_at hl 0 rfl) ?_
    refine lv_bipush (v := 100) C.1 C.2.1 dX11_rebateOf_75 (by decide) ?_
    refine lv_icmp_le (tgt := 85) C.1 C.2.1 dX11_rebateOf_77 (by decide) (fun h1 => ?_) (fun h1 => ?_)
    · refine lv_iload_n C.1 C.2.1 dX11_rebateOf_85 rfl (lv_at hl 0 rfl) ?_
      exact ct_i C hr hlocks rfl (fun t ht hW => m_post hw ht hW) hS (Nat.le_of_ble_eq_true rfl) (Nat.le_of_ble_eq_true rfl) dX11_rebateOf_86
    · refine lv_bipush (v := 100) C.1 C.2.1 dX11_rebateOf_80 (by decide) ?_
      refine lv_goto (tgt := 86) C.1 C.2.1 dX11_rebateOf_82 (by decide) ?_
      exact absurd hs h1
  · refine m_bump C hw tb_720 (lv_at hl 0 rfl) dX11_rebateOf_0 dX11_rebateOf_1 ?_
    refine lv_iconst (v := 0) C.1 C.2.1 dX11_rebateOf_4 (by decide) ?_
    refine m_inc C hw hS (j := 0) (by decide) (by decide) dX11_rebateOf_5 dX11_rebateOf_6 dX11_rebateOf_7 dX11_rebateOf_8 dX11_rebateOf_9 (fun H locs hw hS => ?_)
    refine lv_aload_n C.1 C.2.1 dX11_rebateOf_10 rfl (lv_at hl 0 rfl) ?_
    refine mg_get C hw 5 (by decide) tb_713 rfl dX11_rebateOf_11 ?_
    refine lv_iload_n C.1 C.2.1 dX11_rebateOf_14 rfl (lv_at hl 1 rfl) ?_
    refine ma_share C hw hj rfl dX11_rebateOf_15 ?_
    refine lv_istore_n (lv' := [(2, .int (F j 4)), (0, .ref (q 0)), (1, .int (nI j))]) C.1 C.2.1 dX11_rebateOf_16 rfl hl (by decide) rfl (fun ls hl => ?_)
    refine lv_aload_n C.1 C.2.1 dX11_rebateOf_17 rfl (lv_at hl 1 rfl) ?_
    refine mg_get C hw 2 (by decide) tb_710 rfl dX11_rebateOf_18 ?_
    refine lv_iload_n C.1 C.2.1 dX11_rebateOf_21 rfl (lv_at hl 2 rfl) ?_
    refine ma_kind C hw hj rfl dX11_rebateOf_22 ?_
    rw [hF]
    refine lv_iconst (v := 2) C.1 C.2.1 dX11_rebateOf_23 (by decide) ?_
    refine lv_iconst (v := 3) C.1 C.2.1 dX11_rebateOf_24 (by decide) ?_
    refine ct_ret (ct_S C (c_X11_within l (nI 6) (2) (3)) Tr_bl (Or.inl rfl) tb_773 tb_3 ⟨Nat.le_of_ble_eq_true rfl, Nat.le_of_ble_eq_true rfl⟩ tb_771 ⟨by decide, by decide⟩ tb_772 (fun _ _ _ => trivial) (by show _ = some 3; decide +kernel) hl.1 rfl (Nat.le_of_ble_eq_true rfl) dX11_rebateOf_25 ⟨Nat.le_of_ble_eq_true rfl, Nat.le_of_ble_eq_true rfl⟩) hS (fun _ h => False.elim h) (fun t H locs ht hvm _ _ hk hS => ?_)
    have hw := m_kept hw hk
    refine lv_if_eq (tgt := 48) C.1 C.2.1 dX11_rebateOf_28 (by decide) (fun _ => ?_) (fun h9 => absurd (by decide) h9)
    refine lv_aload_n C.1 C.2.1 dX11_rebateOf_48 rfl (lv_at hl 1 rfl) ?_
    refine mg_get C hw 2 (by decide) tb_710 rfl dX11_rebateOf_49 ?_
    refine lv_iload_n C.1 C.2.1 dX11_rebateOf_52 rfl (lv_at hl 2 rfl) ?_
    refine ma_kind C hw hj rfl dX11_rebateOf_53 ?_
    rw [hF]
    refine lv_bipush (v := 7) C.1 C.2.1 dX11_rebateOf_54 (by decide) ?_
    refine lv_icmp_ne (tgt := 74) C.1 C.2.1 dX11_rebateOf_56 (by decide) (fun _ => ?_) (fun h9 => absurd h9 (by decide))
    refine lv_iload_n C.1 C.2.1 dX11_rebateOf_74 rfl (lv_at hl 0 rfl) ?_
    refine lv_bipush (v := 100) C.1 C.2.1 dX11_rebateOf_75 (by decide) ?_
    refine lv_icmp_le (tgt := 85) C.1 C.2.1 dX11_rebateOf_77 (by decide) (fun h1 => ?_) (fun h1 => ?_)
    · refine lv_iload_n C.1 C.2.1 dX11_rebateOf_85 rfl (lv_at hl 0 rfl) ?_
      exact ct_i C hr hlocks rfl (fun t ht hW => m_post hw ht hW) hS (Nat.le_of_ble_eq_true rfl) (Nat.le_of_ble_eq_true rfl) dX11_rebateOf_86
    · refine lv_bipush (v := 100) C.1 C.2.1 dX11_rebateOf_80 (by decide) ?_
      refine lv_goto (tgt := 86) C.1 C.2.1 dX11_rebateOf_82 (by decide) ?_
      exact absurd hs h1
  · refine m_bump C hw tb_720 (lv_at hl 0 rfl) dX11_rebateOf_0 dX11_rebateOf_1 ?_
    refine lv_iconst (v := 0) C.1 C.2.1 dX11_rebateOf_4 (by decide) ?_
    refine m_inc C hw hS (j := 0) (by decide) (by decide) dX11_rebateOf_5 dX11_rebateOf_6 dX11_rebateOf_7 dX11_rebateOf_8 dX11_rebateOf_9 (fun H locs hw hS => ?_)
    refine lv_aload_n C.1 C.2.1 dX11_rebateOf_10 rfl (lv_at hl 0 rfl) ?_
    refine mg_get C hw 5 (by decide) tb_713 rfl dX11_rebateOf_11 ?_
    refine lv_iload_n C.1 C.2.1 dX11_rebateOf_14 rfl (lv_at hl 1 rfl) ?_
    refine ma_share C hw hj rfl dX11_rebateOf_15 ?_
    refine lv_istore_n (lv' := [(2, .int (F j 4)), (0, .ref (q 0)), (1, .int (nI j))]) C.1 C.2.1 dX11_rebateOf_16 rfl hl (by decide) rfl (fun ls hl => ?_)
    refine lv_aload_n C.1 C.2.1 dX11_rebateOf_17 rfl (lv_at hl 1 rfl) ?_
    refine mg_get C hw 2 (by decide) tb_710 rfl dX11_rebateOf_18 ?_
    refine lv_iload_n C.1 C.2.1 dX11_rebateOf_21 rfl (lv_at hl 2 rfl) ?_
    refine ma_kind C hw hj rfl dX11_rebateOf_22 ?_
    rw [hF]
    refine lv_iconst (v := 2) C.1 C.2.1 dX11_rebateOf_23 (by decide) ?_
    refine lv_iconst (v := 3) C.1 C.2.1 dX11_rebateOf_24 (by decide) ?_
    refine ct_ret (ct_S C (c_X11_within l (nI 7) (2) (3)) Tr_bl (Or.inl rfl) tb_773 tb_3 ⟨Nat.le_of_ble_eq_true rfl, Nat.le_of_ble_eq_true rfl⟩ tb_771 ⟨by decide, by decide⟩ tb_772 (fun _ _ _ => trivial) (by show _ = some 3; decide +kernel) hl.1 rfl (Nat.le_of_ble_eq_true rfl) dX11_rebateOf_25 ⟨Nat.le_of_ble_eq_true rfl, Nat.le_of_ble_eq_true rfl⟩) hS (fun _ h => False.elim h) (fun t H locs ht hvm _ _ hk hS => ?_)
    have hw := m_kept hw hk
    refine lv_if_eq (tgt := 48) C.1 C.2.1 dX11_rebateOf_28 (by decide) (fun _ => ?_) (fun h9 => absurd (by decide) h9)
    refine lv_aload_n C.1 C.2.1 dX11_rebateOf_48 rfl (lv_at hl 1 rfl) ?_
    refine mg_get C hw 2 (by decide) tb_710 rfl dX11_rebateOf_49 ?_
    refine lv_iload_n C.1 C.2.1 dX11_rebateOf_52 rfl (lv_at hl 2 rfl) ?_
    refine ma_kind C hw hj rfl dX11_rebateOf_53 ?_
    rw [hF]
    refine lv_bipush (v := 7) C.1 C.2.1 dX11_rebateOf_54 (by decide) ?_
    refine lv_icmp_ne (tgt := 74) C.1 C.2.1 dX11_rebateOf_56 (by decide) (fun h9 => absurd (by decide) h9) (fun _ => ?_)
    refine m_bump C hw tb_720 (lv_at hl 1 rfl) dX11_rebateOf_59 dX11_rebateOf_60 ?_
    refine lv_bipush (v := 7) C.1 C.2.1 dX11_rebateOf_63 (by decide) ?_
    refine m_inc C hw hS (j := 7) (by decide) (by decide) dX11_rebateOf_65 dX11_rebateOf_66 dX11_rebateOf_67 dX11_rebateOf_68 dX11_rebateOf_69 (fun H locs hw hS => ?_)
    refine lv_iconst (v := 2) C.1 C.2.1 dX11_rebateOf_70 (by decide) ?_
    refine lv_iload_n C.1 C.2.1 dX11_rebateOf_71 rfl (lv_at hl 0 rfl) ?_
    refine lv_imul C.1 C.2.1 dX11_rebateOf_72 ?_
    refine lv_istore_n (lv' := [(2, .int ((2) * (F j 4))), (0, .ref (q 0)), (1, .int (nI j))]) C.1 C.2.1 dX11_rebateOf_73 rfl hl (by decide) rfl (fun ls hl => ?_)
    refine lv_iload_n C.1 C.2.1 dX11_rebateOf_74 rfl (lv_at hl 0 rfl) ?_
    refine lv_bipush (v := 100) C.1 C.2.1 dX11_rebateOf_75 (by decide) ?_
    refine lv_icmp_le (tgt := 85) C.1 C.2.1 dX11_rebateOf_77 (by decide) (fun h1 => ?_) (fun h1 => ?_)
    · refine lv_iload_n C.1 C.2.1 dX11_rebateOf_85 rfl (lv_at hl 0 rfl) ?_
      rw [iB_comm B 0 7] at hw
      exact ct_i C hr hlocks (by rw [show rR 7 F j = _ from (show rR 7 F j = mn (2 * F j 4) 100 from rfl).trans (if_neg (Int32.not_lt.mpr h1))]) (fun t ht hW => m_post hw ht hW) hS (Nat.le_of_ble_eq_true rfl) (Nat.le_of_ble_eq_true rfl) dX11_rebateOf_86
    · refine lv_bipush (v := 100) C.1 C.2.1 dX11_rebateOf_80 (by decide) ?_
      refine lv_goto (tgt := 86) C.1 C.2.1 dX11_rebateOf_82 (by decide) ?_
      rw [iB_comm B 0 7] at hw
      exact ct_i C hr hlocks (by rw [show rR 7 F j = _ from (show rR 7 F j = mn (2 * F j 4) 100 from rfl).trans (if_pos (Int32.not_le.mp h1))]) (fun t ht hW => m_post hw ht hW) hS (Nat.le_of_ble_eq_true rfl) (Nat.le_of_ble_eq_true rfl) dX11_rebateOf_86
  · refine m_bump C hw tb_720 (lv_at hl 0 rfl) dX11_rebateOf_0 dX11_rebateOf_1 ?_
    refine lv_iconst (v := 0) C.1 C.2.1 dX11_rebateOf_4 (by decide) ?_
    refine m_inc C hw hS (j := 0) (by decide) (by decide) dX11_rebateOf_5 dX11_rebateOf_6 dX11_rebateOf_7 dX11_rebateOf_8 dX11_rebateOf_9 (fun H locs hw hS => ?_)
    refine lv_aload_n C.1 C.2.1 dX11_rebateOf_10 rfl (lv_at hl 0 rfl) ?_
    refine mg_get C hw 5 (by decide) tb_713 rfl dX11_rebateOf_11 ?_
    refine lv_iload_n C.1 C.2.1 dX11_rebateOf_14 rfl (lv_at hl 1 rfl) ?_
    refine ma_share C hw hj rfl dX11_rebateOf_15 ?_
    refine lv_istore_n (lv' := [(2, .int (F j 4)), (0, .ref (q 0)), (1, .int (nI j))]) C.1 C.2.1 dX11_rebateOf_16 rfl hl (by decide) rfl (fun ls hl => ?_)
    refine lv_aload_n C.1 C.2.1 dX11_rebateOf_17 rfl (lv_at hl 1 rfl) ?_
    refine mg_get C hw 2 (by decide) tb_710 rfl dX11_rebateOf_18 ?_
    refine lv_iload_n C.1 C.2.1 dX11_rebateOf_21 rfl (lv_at hl 2 rfl) ?_
    refine ma_kind C hw hj rfl dX11_rebateOf_22 ?_
    rw [hF]
    refine lv_iconst (v := 2) C.1 C.2.1 dX11_rebateOf_23 (by decide) ?_
    refine lv_iconst (v := 3) C.1 C.2.1 dX11_rebateOf_24 (by decide) ?_
    refine ct_ret (ct_S C (c_X11_within l (nI 8) (2) (3)) Tr_bl (Or.inl rfl) tb_773 tb_3 ⟨Nat.le_of_ble_eq_true rfl, Nat.le_of_ble_eq_true rfl⟩ tb_771 ⟨by decide, by decide⟩ tb_772 (fun _ _ _ => trivial) (by show _ = some 3; decide +kernel) hl.1 rfl (Nat.le_of_ble_eq_true rfl) dX11_rebateOf_25 ⟨Nat.le_of_ble_eq_true rfl, Nat.le_of_ble_eq_true rfl⟩) hS (fun _ h => False.elim h) (fun t H locs ht hvm _ _ hk hS => ?_)
    have hw := m_kept hw hk
    refine lv_if_eq (tgt := 48) C.1 C.2.1 dX11_rebateOf_28 (by decide) (fun _ => ?_) (fun h9 => absurd (by decide) h9)
    refine lv_aload_n C.1 C.2.1 dX11_rebateOf_48 rfl (lv_at hl 1 rfl) ?_
    refine mg_get C hw 2 (by decide) tb_710 rfl dX11_rebateOf_49 ?_
    refine lv_iload_n C.1 C.2.1 dX11_rebateOf_52 rfl (lv_at hl 2 rfl) ?_
    refine ma_kind C hw hj rfl dX11_rebateOf_53 ?_
    rw [hF]
    refine lv_bipush (v := 7) C.1 C.2.1 dX11_rebateOf_54 (by decide) ?_
    refine lv_icmp_ne (tgt := 74) C.1 C.2.1 dX11_rebateOf_56 (by decide) (fun _ => ?_) (fun h9 => absurd h9 (by decide))
    refine lv_iload_n C.1 C.2.1 dX11_rebateOf_74 rfl (lv_at hl 0 rfl) ?_
    refine lv_bipush (v := 100) C.1 C.2.1 dX11_rebateOf_75 (by decide) ?_
    refine lv_icmp_le (tgt := 85) C.1 C.2.1 dX11_rebateOf_77 (by decide) (fun h1 => ?_) (fun h1 => ?_)
    · refine lv_iload_n C.1 C.2.1 dX11_rebateOf_85 rfl (lv_at hl 0 rfl) ?_
      exact ct_i C hr hlocks rfl (fun t ht hW => m_post hw ht hW) hS (Nat.le_of_ble_eq_true rfl) (Nat.le_of_ble_eq_true rfl) dX11_rebateOf_86
    · refine lv_bipush (v := 100) C.1 C.2.1 dX11_rebateOf_80 (by decide) ?_
      refine lv_goto (tgt := 86) C.1 C.2.1 dX11_rebateOf_82 (by decide) ?_
      exact absurd hs h1
set_option maxHeartbeats 400000 in
set_option maxRecDepth 100000 in
/-- whether it has an ACCOUNT -/
theorem c_X11_hasAccount (l : Launch) (D : va_G) (A : Nat → Prop) (q : Nat → Nat) (cI n : Nat) (F : Nat → Nat → Int32) (B G : Nat → Int32) (cnt : Int32) (r : Nat → Int32) (thr dv : Int32) (j k : Nat) (hj : j < 24) (hk : k < 9) (hF : F j 2 = nI k)  : Ct l yX11_hasAccount (.code yX11_hasAccount cX11_hasAccount 2 (some .boolean)) ({ frames := 0, cells := 0, slots := 0, locals := 0 }) A [.ref (q 0), .int (nI j)] (Mp D A q cI n F B G cnt r thr dv) (.inl (some (.int (b2i (hasAcc k))))) (Mp D A q cI n F B G cnt r thr dv) := by
  refine ct_mk (by decide) (Nat.le_of_ble_eq_true rfl) (fun p e s m below meth c ls C hr hlocks hnm htab hP hl => ?_)
  have hw := hP
  have hS : va_S A s.heap s.heap [] := va_S.rf
  have hl : lv_has ls 2 [(0, .ref (q 0)), (1, .int (nI j))] := hl
  rcases (show k = 0 ∨ k = 1 ∨ k = 2 ∨ k = 3 ∨ k = 4 ∨ k = 5 ∨ k = 6 ∨ k = 7 ∨ k = 8 by omega) with rfl | rfl | rfl | rfl | rfl | rfl | rfl | rfl | rfl
  · refine lv_aload_n C.1 C.2.1 dX11_hasAccount_0 rfl (lv_at hl 0 rfl) ?_
    refine mg_get C hw 2 (by decide) tb_710 rfl dX11_hasAccount_1 ?_
    refine lv_iload_n C.1 C.2.1 dX11_hasAccount_4 rfl (lv_at hl 1 rfl) ?_
    refine ma_kind C hw hj rfl dX11_hasAccount_5 ?_
    rw [hF]
    refine lv_iconst (v := 3) C.1 C.2.1 dX11_hasAccount_6 (by decide) ?_
    refine lv_icmp_eq (tgt := 32) C.1 C.2.1 dX11_hasAccount_7 (by decide) (fun h9 => absurd h9 (by decide)) (fun _ => ?_)
    refine lv_aload_n C.1 C.2.1 dX11_hasAccount_10 rfl (lv_at hl 0 rfl) ?_
    refine mg_get C hw 2 (by decide) tb_710 rfl dX11_hasAccount_11 ?_
    refine lv_iload_n C.1 C.2.1 dX11_hasAccount_14 rfl (lv_at hl 1 rfl) ?_
    refine ma_kind C hw hj rfl dX11_hasAccount_15 ?_
    rw [hF]
    refine lv_bipush (v := 6) C.1 C.2.1 dX11_hasAccount_16 (by decide) ?_
    refine lv_icmp_eq (tgt := 32) C.1 C.2.1 dX11_hasAccount_18 (by decide) (fun h9 => absurd h9 (by decide)) (fun _ => ?_)
    refine lv_aload_n C.1 C.2.1 dX11_hasAccount_21 rfl (lv_at hl 0 rfl) ?_
    refine mg_get C hw 2 (by decide) tb_710 rfl dX11_hasAccount_22 ?_
    refine lv_iload_n C.1 C.2.1 dX11_hasAccount_25 rfl (lv_at hl 1 rfl) ?_
    refine ma_kind C hw hj rfl dX11_hasAccount_26 ?_
    rw [hF]
    refine lv_bipush (v := 7) C.1 C.2.1 dX11_hasAccount_27 (by decide) ?_
    refine lv_icmp_ne (tgt := 36) C.1 C.2.1 dX11_hasAccount_29 (by decide) (fun _ => ?_) (fun h9 => absurd h9 (by decide))
    refine lv_iconst (v := 0) C.1 C.2.1 dX11_hasAccount_36 (by decide) ?_
    exact ct_z C hr hlocks (by decide) rfl (fun t ht hW => m_post hw ht hW) hS (Nat.le_of_ble_eq_true rfl) (Nat.le_of_ble_eq_true rfl) dX11_hasAccount_37
  · refine lv_aload_n C.1 C.2.1 dX11_hasAccount_0 rfl (lv_at hl 0 rfl) ?_
    refine mg_get C hw 2 (by decide) tb_710 rfl dX11_hasAccount_1 ?_
    refine lv_iload_n C.1 C.2.1 dX11_hasAccount_4 rfl (lv_at hl 1 rfl) ?_
    refine ma_kind C hw hj rfl dX11_hasAccount_5 ?_
    rw [hF]
    refine lv_iconst (v := 3) C.1 C.2.1 dX11_hasAccount_6 (by decide) ?_
    refine lv_icmp_eq (tgt := 32) C.1 C.2.1 dX11_hasAccount_7 (by decide) (fun h9 => absurd h9 (by decide)) (fun _ => ?_)
    refine lv_aload_n C.1 C.2.1 dX11_hasAccount_10 rfl (lv_at hl 0 rfl) ?_
    refine mg_get C hw 2 (by decide) tb_710 rfl dX11_hasAccount_11 ?_
    refine lv_iload_n C.1 C.2.1 dX11_hasAccount_14 rfl (lv_at hl 1 rfl) ?_
    refine ma_kind C hw hj rfl dX11_hasAccount_15 ?_
    rw [hF]
    refine lv_bipush (v := 6) C.1 C.2.1 dX11_hasAccount_16 (by decide) ?_
    refine lv_icmp_eq (tgt := 32) C.1 C.2.1 dX11_hasAccount_18 (by decide) (fun h9 => absurd h9 (by decide)) (fun _ => ?_)
    refine lv_aload_n C.1 C.2.1 dX11_hasAccount_21 rfl (lv_at hl 0 rfl) ?_
    refine mg_get C hw 2 (by decide) tb_710 rfl dX11_hasAccount_22 ?_
    refine lv_iload_n C.1 C.2.1 dX11_hasAccount_25 rfl (lv_at hl 1 rfl) ?_
    refine ma_kind C hw hj rfl dX11_hasAccount_26 ?_
    rw [hF]
    refine lv_bipush (v := 7) C.1 C.2.1 dX11_hasAccount_27 (by decide) ?_
    refine lv_icmp_ne (tgt := 36) C.1 C.2.1 dX11_hasAccount_29 (by decide) (fun _ => ?_) (fun h9 => absurd h9 (by decide))
    refine lv_iconst (v := 0) C.1 C.2.1 dX11_hasAccount_36 (by decide) ?_
    exact ct_z C hr hlocks (by decide) rfl (fun t ht hW => m_post hw ht hW) hS (Nat.le_of_ble_eq_true rfl) (Nat.le_of_ble_eq_true rfl) dX11_hasAccount_37
  · refine lv_aload_n C.1 C.2.1 dX11_hasAccount_0 rfl (lv_at hl 0 rfl) ?_
    refine mg_get C hw 2 (by decide) tb_710 rfl dX11_hasAccount_1 ?_
    refine lv_iload_n C.1 C.2.1 dX11_hasAccount_4 rfl (lv_at hl 1 rfl) ?_
    refine ma_kind C hw hj rfl dX11_hasAccount_5 ?_
    rw [hF]
    refine lv_iconst (v := 3) C.1 C.2.1 dX11_hasAccount_6 (by decide) ?_
    refine lv_icmp_eq (tgt := 32) C.1 C.2.1 dX11_hasAccount_7 (by decide) (fun h9 => absurd h9 (by decide)) (fun _ => ?_)
    refine lv_aload_n C.1 C.2.1 dX11_hasAccount_10 rfl (lv_at hl 0 rfl) ?_
    refine mg_get C hw 2 (by decide) tb_710 rfl dX11_hasAccount_11 ?_
    refine lv_iload_n C.1 C.2.1 dX11_hasAccount_14 rfl (lv_at hl 1 rfl) ?_
    refine ma_kind C hw hj rfl dX11_hasAccount_15 ?_
    rw [hF]
    refine lv_bipush (v := 6) C.1 C.2.1 dX11_hasAccount_16 (by decide) ?_
    refine lv_icmp_eq (tgt := 32) C.1 C.2.1 dX11_hasAccount_18 (by decide) (fun h9 => absurd h9 (by decide)) (fun _ => ?_)
    refine lv_aload_n C.1 C.2.1 dX11_hasAccount_21 rfl (lv_at hl 0 rfl) ?_
    refine mg_get C hw 2 (by decide) tb_710 rfl dX11_hasAccount_22 ?_
    refine lv_iload_n C.1 C.2.1 dX11_hasAccount_25 rfl (lv_at hl 1 rfl) ?_
    refine ma_kind C hw hj rfl dX11_hasAccount_26 ?_
    rw [hF]
    refine lv_bipush (v := 7) C.1 C.2.1 dX11_hasAccount_27 (by decide) ?_
    refine lv_icmp_ne (tgt := 36) C.1 C.2.1 dX11_hasAccount_29 (by decide) (fun _ => ?_) (fun h9 => absurd h9 (by decide))
    refine lv_iconst (v := 0) C.1 C.2.1 dX11_hasAccount_36 (by decide) ?_
    exact ct_z C hr hlocks (by decide) rfl (fun t ht hW => m_post hw ht hW) hS (Nat.le_of_ble_eq_true rfl) (Nat.le_of_ble_eq_true rfl) dX11_hasAccount_37
  · refine lv_aload_n C.1 C.2.1 dX11_hasAccount_0 rfl (lv_at hl 0 rfl) ?_
    refine mg_get C hw 2 (by decide) tb_710 rfl dX11_hasAccount_1 ?_
    refine lv_iload_n C.1 C.2.1 dX11_hasAccount_4 rfl (lv_at hl 1 rfl) ?_
    refine ma_kind C hw hj rfl dX11_hasAccount_5 ?_
    rw [hF]
    refine lv_iconst (v := 3) C.1 C.2.1 dX11_hasAccount_6 (by decide) ?_
    refine lv_icmp_eq (tgt := 32) C.1 C.2.1 dX11_hasAccount_7 (by decide) (fun _ => ?_) (fun h9 => absurd (by decide) h9)
    refine lv_iconst (v := 1) C.1 C.2.1 dX11_hasAccount_32 (by decide) ?_
    refine lv_goto (tgt := 37) C.1 C.2.1 dX11_hasAccount_33 (by decide) ?_
    exact ct_z C hr hlocks (by decide) rfl (fun t ht hW => m_post hw ht hW) hS (Nat.le_of_ble_eq_true rfl) (Nat.le_of_ble_eq_true rfl) dX11_hasAccount_37
  · refine lv_aload_n C.1 C.2.1 dX11_hasAccount_0 rfl (lv_at hl 0 rfl) ?_
    refine mg_get C hw 2 (by decide) tb_710 rfl dX11_hasAccount_1 ?_
    refine lv_iload_n C.1 C.2.1 dX11_hasAccount_4 rfl (lv_at hl 1 rfl) ?_
    refine ma_kind C hw hj rfl dX11_hasAccount_5 ?_
    rw [hF]
    refine lv_iconst (v := 3) C.1 C.2.1 dX11_hasAccount_6 (by decide) ?_
    refine lv_icmp_eq (tgt := 32) C.1 C.2.1 dX11_hasAccount_7 (by decide) (fun h9 => absurd h9 (by decide)) (fun _ => ?_)
    refine lv_aload_n C.1 C.2.1 dX11_hasAccount_10 rfl (lv_at hl 0 rfl) ?_
    refine mg_get C hw 2 (by decide) tb_710 rfl dX11_hasAccount_11 ?_
    refine lv_iload_n C.1 C.2.1 dX11_hasAccount_14 rfl (lv_at hl 1 rfl) ?_
    refine ma_kind C hw hj rfl dX11_hasAccount_15 ?_
    rw [hF]
    refine lv_bipush (v := 6) C.1 C.2.1 dX11_hasAccount_16 (by decide) ?_
    refine lv_icmp_eq (tgt := 32) C.1 C.2.1 dX11_hasAccount_18 (by decide) (fun h9 => absurd h9 (by decide)) (fun _ => ?_)
    refine lv_aload_n C.1 C.2.1 dX11_hasAccount_21 rfl (lv_at hl 0 rfl) ?_
    refine mg_get C hw 2 (by decide) tb_710 rfl dX11_hasAccount_22 ?_
    refine lv_iload_n C.1 C.2.1 dX11_hasAccount_25 rfl (lv_at hl 1 rfl) ?_
    refine ma_kind C hw hj rfl dX11_hasAccount_26 ?_
    rw [hF]
    refine lv_bipush (v := 7) C.1 C.2.1 dX11_hasAccount_27 (by decide) ?_
    refine lv_icmp_ne (tgt := 36) C.1 C.2.1 dX11_hasAccount_29 (by decide) (fun _ => ?_) (fun h9 => absurd h9 (by decide))
    refine lv_iconst (v := 0) C.1 C.2.1 dX11_hasAccount_36 (by decide) ?_
    exact ct_z C hr hlocks (by decide) rfl (fun t ht hW => m_post hw ht hW) hS (Nat.le_of_ble_eq_true rfl) (Nat.le_of_ble_eq_true rfl) dX11_hasAccount_37
  · refine lv_aload_n C.1 C.2.1 dX11_hasAccount_0 rfl (lv_at hl 0 rfl) ?_
    refine mg_get C hw 2 (by decide) tb_710 rfl dX11_hasAccount_1 ?_
    refine lv_iload_n C.1 C.2.1 dX11_hasAccount_4 rfl (lv_at hl 1 rfl) ?_
    refine ma_kind C hw hj rfl dX11_hasAccount_5 ?_
    rw [hF]
    refine lv_iconst (v := 3) C.1 C.2.1 dX11_hasAccount_6 (by decide) ?_
    refine lv_icmp_eq (tgt := 32) C.1 C.2.1 dX11_hasAccount_7 (by decide) (fun h9 => absurd h9 (by decide)) (fun _ => ?_)
    refine lv_aload_n C.1 C.2.1 dX11_hasAccount_10 rfl (lv_at hl 0 rfl) ?_
    refine mg_get C hw 2 (by decide) tb_710 rfl dX11_hasAccount_11 ?_
    refine lv_iload_n C.1 C.2.1 dX11_hasAccount_14 rfl (lv_at hl 1 rfl) ?_
    refine ma_kind C hw hj rfl dX11_hasAccount_15 ?_
    rw [hF]
    refine lv_bipush (v := 6) C.1 C.2.1 dX11_hasAccount_16 (by decide) ?_
    refine lv_icmp_eq (tgt := 32) C.1 C.2.1 dX11_hasAccount_18 (by decide) (fun h9 => absurd h9 (by decide)) (fun _ => ?_)
    refine lv_aload_n C.1 C.2.1 dX11_hasAccount_21 rfl (lv_at hl 0 rfl) ?_
    refine mg_get C hw 2 (by decide) tb_710 rfl dX11_hasAccount_22 ?_
    refine lv_iload_n C.1 C.2.1 dX11_hasAccount_25 rfl (lv_at hl 1 rfl) ?_
    refine ma_kind C hw hj rfl dX11_hasAccount_26 ?_
    rw [hF]
    refine lv_bipush (v := 7) C.1 C.2.1 dX11_hasAccount_27 (by decide) ?_
    refine lv_icmp_ne (tgt := 36) C.1 C.2.1 dX11_hasAccount_29 (by decide) (fun _ => ?_) (fun h9 => absurd h9 (by decide))
    refine lv_iconst (v := 0) C.1 C.2.1 dX11_hasAccount_36 (by decide) ?_
    exact ct_z C hr hlocks (by decide) rfl (fun t ht hW => m_post hw ht hW) hS (Nat.le_of_ble_eq_true rfl) (Nat.le_of_ble_eq_true rfl) dX11_hasAccount_37
  · refine lv_aload_n C.1 C.2.1 dX11_hasAccount_0 rfl (lv_at hl 0 rfl) ?_
    refine mg_get C hw 2 (by decide) tb_710 rfl dX11_hasAccount_1 ?_
    refine lv_iload_n C.1 C.2.1 dX11_hasAccount_4 rfl (lv_at hl 1 rfl) ?_
    refine ma_kind C hw hj rfl dX11_hasAccount_5 ?_
    rw [hF]
    refine lv_iconst (v := 3) C.1 C.2.1 dX11_hasAccount_6 (by decide) ?_
    refine lv_icmp_eq (tgt := 32) C.1 C.2.1 dX11_hasAccount_7 (by decide) (fun h9 => absurd h9 (by decide)) (fun _ => ?_)
    refine lv_aload_n C.1 C.2.1 dX11_hasAccount_10 rfl (lv_at hl 0 rfl) ?_
    refine mg_get C hw 2 (by decide) tb_710 rfl dX11_hasAccount_11 ?_
    refine lv_iload_n C.1 C.2.1 dX11_hasAccount_14 rfl (lv_at hl 1 rfl) ?_
    refine ma_kind C hw hj rfl dX11_hasAccount_15 ?_
    rw [hF]
    refine lv_bipush (v := 6) C.1 C.2.1 dX11_hasAccount_16 (by decide) ?_
    refine lv_icmp_eq (tgt := 32) C.1 C.2.1 dX11_hasAccount_18 (by decide) (fun _ => ?_) (fun h9 => absurd (by decide) h9)
    refine lv_iconst (v := 1) C.1 C.2.1 dX11_hasAccount_32 (by decide) ?_
    refine lv_goto (tgt := 37) C.1 C.2.1 dX11_hasAccount_33 (by decide) ?_
    exact ct_z C hr hlocks (by decide) rfl (fun t ht hW => m_post hw ht hW) hS (Nat.le_of_ble_eq_true rfl) (Nat.le_of_ble_eq_true rfl) dX11_hasAccount_37
  · refine lv_aload_n C.1 C.2.1 dX11_hasAccount_0 rfl (lv_at hl 0 rfl) ?_
    refine mg_get C hw 2 (by decide) tb_710 rfl dX11_hasAccount_1 ?_
    refine lv_iload_n C.1 C.2.1 dX11_hasAccount_4 rfl (lv_at hl 1 rfl) ?_
    refine ma_kind C hw hj rfl dX11_hasAccount_5 ?_
    rw [hF]
    refine lv_iconst (v := 3) C.1 C.2.1 dX11_hasAccount_6 (by decide) ?_
    refine lv_icmp_eq (tgt := 32) C.1 C.2.1 dX11_hasAccount_7 (by decide) (fun h9 => absurd h9 (by decide)) (fun _ => ?_)
    refine lv_aload_n C.1 C.2.1 dX11_hasAccount_10 rfl (lv_at hl 0 rfl) ?_
    refine mg_get C hw 2 (by decide) tb_710 rfl dX11_hasAccount_11 ?_
    refine lv_iload_n C.1 C.2.1 dX11_hasAccount_14 rfl (lv_at hl 1 rfl) ?_
    refine ma_kind C hw hj rfl dX11_hasAccount_15 ?_
    rw [hF]
    refine lv_bipush (v := 6) C.1 C.2.1 dX11_hasAccount_16 (by decide) ?_
    refine lv_icmp_eq (tgt := 32) C.1 C.2.1 dX11_hasAccount_18 (by decide) (fun h9 => absurd h9 (by decide)) (fun _ => ?_)
    refine lv_aload_n C.1 C.2.1 dX11_hasAccount_21 rfl (lv_at hl 0 rfl) ?_
    refine mg_get C hw 2 (by decide) tb_710 rfl dX11_hasAccount_22 ?_
    refine lv_iload_n C.1 C.2.1 dX11_hasAccount_25 rfl (lv_at hl 1 rfl) ?_
    refine ma_kind C hw hj rfl dX11_hasAccount_26 ?_
    rw [hF]
    refine lv_bipush (v := 7) C.1 C.2.1 dX11_hasAccount_27 (by decide) ?_
    refine lv_icmp_ne (tgt := 36) C.1 C.2.1 dX11_hasAccount_29 (by decide) (fun h9 => absurd (by decide) h9) (fun _ => ?_)
    refine lv_iconst (v := 1) C.1 C.2.1 dX11_hasAccount_32 (by decide) ?_
    refine lv_goto (tgt := 37) C.1 C.2.1 dX11_hasAccount_33 (by decide) ?_
    exact ct_z C hr hlocks (by decide) rfl (fun t ht hW => m_post hw ht hW) hS (Nat.le_of_ble_eq_true rfl) (Nat.le_of_ble_eq_true rfl) dX11_hasAccount_37
  · refine lv_aload_n C.1 C.2.1 dX11_hasAccount_0 rfl (lv_at hl 0 rfl) ?_
    refine mg_get C hw 2 (by decide) tb_710 rfl dX11_hasAccount_1 ?_
    refine lv_iload_n C.1 C.2.1 dX11_hasAccount_4 rfl (lv_at hl 1 rfl) ?_
    refine ma_kind C hw hj rfl dX11_hasAccount_5 ?_
    rw [hF]
    refine lv_iconst (v := 3) C.1 C.2.1 dX11_hasAccount_6 (by decide) ?_
    refine lv_icmp_eq (tgt := 32) C.1 C.2.1 dX11_hasAccount_7 (by decide) (fun h9 => absurd h9 (by decide)) (fun _ => ?_)
    refine lv_aload_n C.1 C.2.1 dX11_hasAccount_10 rfl (lv_at hl 0 rfl) ?_
    refine mg_get C hw 2 (by decide) tb_710 rfl dX11_hasAccount_11 ?_
    refine lv_iload_n C.1 C.2.1 dX11_hasAccount_14 rfl (lv_at hl 1 rfl) ?_
    refine ma_kind C hw hj rfl dX11_hasAccount_15 ?_
    rw [hF]
    refine lv_bipush (v := 6) C.1 C.2.1 dX11_hasAccount_16 (by decide) ?_
    refine lv_icmp_eq (tgt := 32) C.1 C.2.1 dX11_hasAccount_18 (by decide) (fun h9 => absurd h9 (by decide)) (fun _ => ?_)
    refine lv_aload_n C.1 C.2.1 dX11_hasAccount_21 rfl (lv_at hl 0 rfl) ?_
    refine mg_get C hw 2 (by decide) tb_710 rfl dX11_hasAccount_22 ?_
    refine lv_iload_n C.1 C.2.1 dX11_hasAccount_25 rfl (lv_at hl 1 rfl) ?_
    refine ma_kind C hw hj rfl dX11_hasAccount_26 ?_
    rw [hF]
    refine lv_bipush (v := 7) C.1 C.2.1 dX11_hasAccount_27 (by decide) ?_
    refine lv_icmp_ne (tgt := 36) C.1 C.2.1 dX11_hasAccount_29 (by decide) (fun _ => ?_) (fun h9 => absurd h9 (by decide))
    refine lv_iconst (v := 0) C.1 C.2.1 dX11_hasAccount_36 (by decide) ?_
    exact ct_z C hr hlocks (by decide) rfl (fun t ht hW => m_post hw ht hW) hS (Nat.le_of_ble_eq_true rfl) (Nat.le_of_ble_eq_true rfl) dX11_hasAccount_37
set_option maxHeartbeats 400000 in
set_option maxRecDepth 100000 in
/-- BILL -/
theorem c_X11_billOf (l : Launch) (D : va_G) (A : Nat → Prop) (q : Nat → Nat) (cI n : Nat) (F : Nat → Nat → Int32) (B G : Nat → Int32) (cnt : Int32) (r : Nat → Int32) (thr dv : Int32) (j k : Nat) (hj : j < 24) (hk : k < 9) (hF : F j 2 = nI k) (h : Int32) (hs : F j 4 ≤ 100) : Ct l yX11_billOf (.code yX11_billOf cX11_billOf 4 (some .int)) ({ frames := 3, cells := 0, slots := 0, locals := 71 }) A [.ref (q 0), .int (nI j), .int h] (Mp D A q cI n F B G cnt r thr dv) (.inl (some (.int (bR k F j h)))) (Mp D A q cI n F (bB k h B) (tG k F j G) cnt r thr (b2i (tX k F j))) := by
  refine ct_mk (by decide) (Nat.le_of_ble_eq_true rfl) (fun p e s m below meth c ls C hr hlocks hnm htab hP hl => ?_)
  have hw := hP
  have hS : va_S A s.heap s.heap [] := va_S.rf
  have hl : lv_has ls 4 [(0, .ref (q 0)), (1, .int (nI j)), (2, .int h)] := hl
  refine lv_aload_n C.1 C.2.1 dX11_billOf_0 rfl (lv_at hl 0 rfl) ?_
  refine lv_iload_n C.1 C.2.1 dX11_billOf_1 rfl (lv_at hl 1 rfl) ?_
  refine lv_iload_n C.1 C.2.1 dX11_billOf_2 rfl (lv_at hl 2 rfl) ?_
  refine ct_ret (ct_V0 C (c_X11_tollOf l D A q _ _ _ _ _ _ _ _ _ j k hj hk hF h) Mp_bl (Or.inl rfl) tb_796 tb_3 ⟨Nat.le_of_ble_eq_true rfl, Nat.le_of_ble_eq_true rfl⟩ tb_793 ⟨by decide, by decide⟩ tbp_5 tb_795 (m_recv hw) (fun U hU hW => m_post hw hU hW) (sig_code (C.2.2.2.2 _ tb_796)) (by show _ = some 2; decide +kernel) hl.1 rfl (Nat.le_of_ble_eq_true rfl) dX11_billOf_3 ⟨Nat.le_of_ble_eq_true rfl, Nat.le_of_ble_eq_true rfl⟩) hS (fun _ h => h) (fun t H locs ht hvm hw _ _ hS => ?_)
  have hw := m_back hw ht hvm
  refine lv_istore_n (lv' := [(3, .int (tR k F j h)), (0, .ref (q 0)), (1, .int (nI j)), (2, .int (h))]) C.1 C.2.1 dX11_billOf_6 rfl hl (by decide) rfl (fun ls hl => ?_)
  refine lv_iload_n C.1 C.2.1 dX11_billOf_7 rfl (lv_at hl 0 rfl) ?_
  refine lv_iload_n C.1 C.2.1 dX11_billOf_8 rfl (lv_at hl 0 rfl) ?_
  refine lv_aload_n C.1 C.2.1 dX11_billOf_9 rfl (lv_at hl 1 rfl) ?_
  refine lv_iload_n C.1 C.2.1 dX11_billOf_10 rfl (lv_at hl 2 rfl) ?_
  refine ct_ret (ct_V0 C (c_X11_rebateOf l D A q _ _ _ _ _ _ _ _ _ j k hj hk hF hs) Mp_bl (Or.inl rfl) tb_840 tb_3 ⟨Nat.le_of_ble_eq_true rfl, Nat.le_of_ble_eq_true rfl⟩ tb_837 ⟨by decide, by decide⟩ tbp_12 tb_839 (m_recv hw) (fun U hU hW => m_post hw hU hW) (sig_code (C.2.2.2.2 _ tb_840)) (by show _ = some 1; decide +kernel) hl.1 rfl (Nat.le_of_ble_eq_true rfl) dX11_billOf_11 ⟨Nat.le_of_ble_eq_true rfl, Nat.le_of_ble_eq_true rfl⟩) hS (fun _ h => h) (fun t H locs ht hvm hw _ _ hS => ?_)
  have hw := m_back hw ht hvm
  refine lv_imul C.1 C.2.1 dX11_billOf_14 ?_
  refine lv_bipush (v := 100) C.1 C.2.1 dX11_billOf_15 (by decide) ?_
  refine lv_idiv C.1 C.2.1 dX11_billOf_17 (by decide) ?_
  refine lv_isub C.1 C.2.1 dX11_billOf_18 ?_
  exact ct_i C hr hlocks rfl (fun t ht hW => m_post hw ht hW) hS (Nat.le_of_ble_eq_true rfl) (Nat.le_of_ble_eq_true rfl) dX11_billOf_19

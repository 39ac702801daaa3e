/-! p35: refused -/
abbrev rmL_refused : Room := { frames := 28, cells := 0, slots := 0, locals := 729 }
set_option maxHeartbeats 8000000 in
set_option maxRecDepth 100000 in
theorem c_L_refused (l : Launch) (D : va_G) (cI cJ cC cL : ClassId) (q : Nat) (ax : Nat → Nat) (B : Nat) (g : Nat → Nat) (hy : Nat → Nat → Nat) (N u0 : Nat) (sb : Nat) (gs : Nat → Nat) (tg : Nat → Nat) (nL : Nat) (lc : Nat → Int32) (nr : Nat) (rn : Nat → Int32) (rd : Nat → Int32) (hn9 : g 0 = 9) (hk0 : GA g 0 0 = 0) (hB31 : B + 3000000 < 2 ^ 31) (sz : Nat) : Met l yL_refused wsL_refused rmL_refused (va_Pc [.ref q] (lpre XS D (tyL cI cJ cC cL) (fun A H => OBJ D cI cJ cC cL A q ax B g hy N u0 sb gs (0) tg nL lc nr rn rd H) ((OA q ax)) sz)) (va_Qi (S := (Nat × (Nat → Int32) × Nat × (Nat → Int32) × (Nat → Int32))) (fun r _ => r = nI 1) (fun uu t => lpost D (tyL cI cJ cC cL) ((fun (u : (Nat × (Nat → Int32) × Nat × (Nat → Int32) × (Nat → Int32))) A H => OBJ D cI cJ cC cL A q ax (B + 3000000) g hy N u0 sb gs (0) tg (u.1) (u.2.1) (u.2.2.1) (u.2.2.2.1) (u.2.2.2.2) H) uu) ((OA q ax) sz) t) ((OA q ax) sz)) 0 0 ((OA q ax) sz) := by
  refine lE_z (y := yL_refused) (wy := wsL_refused) (X := XS) (O := (fun A H => OBJ D cI cJ cC cL A q ax B g hy N u0 sb gs (0) tg nL lc nr rn rd H)) (σ := (Nat × (Nat → Int32) × Nat × (Nat → Int32) × (Nat → Int32))) (O' := (fun (u : (Nat × (Nat → Int32) × Nat × (Nat → Int32) × (Nat → Int32))) A H => OBJ D cI cJ cC cL A q ax (B + 3000000) g hy N u0 sb gs (0) tg (u.1) (u.2.1) (u.2.2.1) (u.2.2.2.1) (u.2.2.2.2) H)) (F := (OA q ax)) (cc := cL_refused) (maxL := 7) (own := RL) (ret := some .boolean) (lv0 := [(0, .ref q)]) (by decide) rfl rfl rfl (Nat.le_of_ble_eq_true rfl) rfl (fun z q h => Or.inr h) ?_
  intro p e s m args below meth c A Q ls hx hb hml hown hts hK hN hX hA hAe hO hS hl hRet
  have hF : CallFix p m c cL_refused 7 s args wsL_refused RL := ⟨hx, hb, hml, hown, hts⟩
  have hO : OBJ D cI cJ cC cL A q ax B g hy N u0 sb gs (0) tg nL lc nr rn rd s.heap := hO
  have hXS : XS A s s.heap := hX
  have hQE := OBJ_QE hO
  have h0g : 0 < g 0 := by omega
  have hno : no_l g (nI 9) := Or.inr (by rw [hn9]; exact nI_le (Nat.le_refl 9) (by omega))
  have hnm : no_l g (-nI 1) := Or.inl (m_lt (by omega) (by omega))
  have hs0 : src g 0 0 = 0 := (hQE.1.2.2.2.2.1 0 (by omega) hk0).2 0 (by omega)
  refine lv_aload_n hx hb dL_refused_0 rfl (lv_at hl 0 rfl) ?_
  have hB9 : B < 2 ^ 31 := by omega
  have hsub := OBJ_sub hO (fun z h => hA z (Nat.le_trans hS.1 h))
  refine lc_l (X := XS) (O := (fun A H => OBJ D cI cJ cC cL A q ax B g hy N u0 sb gs (0) tg nL lc nr rn rd H)) (O' := (fun _ => (fun A H => OBJ D cI cJ cC cL A q ax B g hy N u0 sb gs (0) tg (q_tellN g) (q_tellC g) nr rn rd H))) (F := (OA q ax)) (As := [.ref q]) (rest := []) hF (c_L_asks l D cI cJ cC cL q ax B g hy N u0 sb gs (0) tg nL lc nr rn rd hB9 _) (va_cwS 1 hts gL_refused_L_asks rfl rfl rfl (by decide +kernel) ⟨Nat.le_of_ble_eq_true rfl, Nat.le_of_ble_eq_true rfl⟩) rfl hl rfl (Nat.le_of_ble_eq_true rfl) dL_refused_1 ⟨Nat.zero_le _, Nat.zero_le _⟩ hK hN (KX_XS) (X_at KX_XS hXS hS hsub) (OBJ_at hO _) hS (hsub) (fun r v9 H locs hr hO1 hS hz hk => ?_)
  have hO := OBJ_to hO1 hsub
  clear hsub hO1
  subst hr
  refine lv_lstore_n (lv' := [(1, .long (fAsk g)), (0, .ref q)]) hx hb dL_refused_4 rfl hl (by decide) rfl (fun ls hl => ?_)
  refine lv_aload_n hx hb dL_refused_5 rfl (lv_at hl 1 rfl) ?_
  refine lv_iconst (v := nI 1) hx hb dL_refused_6 (by decide) ?_
  refine oc_accountS hF (by decide) (by decide) (cwV 1 hts gL_refused_X9_account rfl rfl rfl (by decide +kernel) ⟨Nat.le_of_ble_eq_true rfl, Nat.le_of_ble_eq_true rfl⟩) (Nat.le_of_ble_eq_true rfl) hl (Nat.le_of_ble_eq_true rfl) dL_refused_7 ⟨Nat.zero_le _, Nat.zero_le _⟩ hK hN hXS hA hO hS (fun H locs hO hS hz hk => ?_)
  rw [qe_acc1 (OBJ_G hO) hQE, hn9]
  refine lv_istore_n (lv' := [(3, .int (nI 9)), (1, .long (fAsk g)), (0, .ref q)]) hx hb dL_refused_10 rfl hl (by decide) rfl (fun ls hl => ?_)
  refine lv_aload_n hx hb dL_refused_11 rfl (lv_at hl 2 rfl) ?_
  refine lv_iconst (v := nI 0) hx hb dL_refused_12 (by decide) ?_
  refine lv_iconst (v := nI 0) hx hb dL_refused_13 (by decide) ?_
  refine oc_reason hF (reason_q (OBJ_nr hO) (i := 0) (b := 0) (by omega) (by omega)) (cwV 2 hts gL_refused_X9_reason rfl rfl rfl (by decide +kernel) ⟨Nat.le_of_ble_eq_true rfl, Nat.le_of_ble_eq_true rfl⟩) (Nat.le_of_ble_eq_true rfl) hl (Nat.le_of_ble_eq_true rfl) dL_refused_14 ⟨Nat.zero_le _, Nat.zero_le _⟩ hK hN hXS hA hO hS (fun H locs hO hS hz hk => ?_)
  refine lv_istore (lv' := [(4, .int (RS nr rn rd 0 0)), (3, .int (nI 9)), (1, .long (fAsk g)), (0, .ref q)]) hx hb dL_refused_17 hl (by decide) rfl (fun ls hl => ?_)
  refine lv_aload_n hx hb dL_refused_19 rfl (lv_at hl 3 rfl) ?_
  refine lv_iconst (v := nI 0) hx hb dL_refused_20 (by decide) ?_
  refine lv_iconst (v := nI 1) hx hb dL_refused_21 (by decide) ?_
  refine oc_reason hF (reason_q (OBJ_nr hO) (i := 0) (b := 1) (by omega) (by omega)) (cwV 2 hts gL_refused_X9_reason rfl rfl rfl (by decide +kernel) ⟨Nat.le_of_ble_eq_true rfl, Nat.le_of_ble_eq_true rfl⟩) (Nat.le_of_ble_eq_true rfl) hl (Nat.le_of_ble_eq_true rfl) dL_refused_22 ⟨Nat.zero_le _, Nat.zero_le _⟩ hK hN hXS hA hO hS (fun H locs hO hS hz hk => ?_)
  refine lv_istore (lv' := [(5, .int (RS nr rn rd 0 1)), (4, .int (RS nr rn rd 0 0)), (3, .int (nI 9)), (1, .long (fAsk g)), (0, .ref q)]) hx hb dL_refused_25 hl (by decide) rfl (fun ls hl => ?_)
  refine lv_aload_n hx hb dL_refused_27 rfl (lv_at hl 4 rfl) ?_
  refine lv_bipush (v := nI 7) hx hb dL_refused_28 (by decide) ?_
  refine lv_iconst (v := nI 1) hx hb dL_refused_30 (by decide) ?_
  refine oc_hang hF (IN_hang_bad (OBJ_G hO) (Or.inl (Or.inr (by decide +kernel)))) (cwV 2 hts gL_refused_X9_hang rfl rfl rfl (by decide +kernel) ⟨Nat.le_of_ble_eq_true rfl, Nat.le_of_ble_eq_true rfl⟩) (Nat.le_of_ble_eq_true rfl) hl (Nat.le_of_ble_eq_true rfl) dL_refused_31 ⟨Nat.zero_le _, Nat.zero_le _⟩ hK hN hXS hA hO hS (fun g' hl' N' u' n' rn' rd' x H locs hO hS hz hk hch hp => ?_)
  obtain ⟨rfl, rfl, rfl, rfl⟩ := PSm_s hp
  obtain ⟨rfl, rfl, rfl, rfl⟩ := MS_rs hch (m_lt (by omega) (by omega))
  refine lv_bipush (v := -nI 12) hx hb dL_refused_34 (by decide) ?_
  refine lv_icmp_ne (tgt := 226) hx hb dL_refused_36 (by decide) (fun hq => absurd rfl hq) (fun _ => ?_)
  refine lv_aload_n hx hb dL_refused_39 rfl (lv_at hl 4 rfl) ?_
  refine lv_iconst (v := -nI 1) hx hb dL_refused_40 (by decide) ?_
  refine lv_iconst (v := nI 1) hx hb dL_refused_41 (by decide) ?_
  refine oc_hang hF (IN_hang_bad (OBJ_G hO) (Or.inl (Or.inl (by decide +kernel)))) (cwV 2 hts gL_refused_X9_hang rfl rfl rfl (by decide +kernel) ⟨Nat.le_of_ble_eq_true rfl, Nat.le_of_ble_eq_true rfl⟩) (Nat.le_of_ble_eq_true rfl) hl (Nat.le_of_ble_eq_true rfl) dL_refused_42 ⟨Nat.zero_le _, Nat.zero_le _⟩ hK hN hXS hA hO hS (fun g' hl' N' u' n' rn' rd' x H locs hO hS hz hk hch hp => ?_)
  obtain ⟨rfl, rfl, rfl, rfl⟩ := PSm_s hp
  obtain ⟨rfl, rfl, rfl, rfl⟩ := MS_rs hch (m_lt (by omega) (by omega))
  refine lv_bipush (v := -nI 12) hx hb dL_refused_45 (by decide) ?_
  refine lv_icmp_ne (tgt := 226) hx hb dL_refused_47 (by decide) (fun hq => absurd rfl hq) (fun _ => ?_)
  refine lv_aload_n hx hb dL_refused_50 rfl (lv_at hl 4 rfl) ?_
  refine lv_iconst (v := nI 0) hx hb dL_refused_51 (by decide) ?_
  refine lv_iconst (v := nI 0) hx hb dL_refused_52 (by decide) ?_
  refine oc_hang hF (IN_hang_bad (OBJ_G hO) (Or.inr (Or.inl (by decide +kernel)))) (cwV 2 hts gL_refused_X9_hang rfl rfl rfl (by decide +kernel) ⟨Nat.le_of_ble_eq_true rfl, Nat.le_of_ble_eq_true rfl⟩) (Nat.le_of_ble_eq_true rfl) hl (Nat.le_of_ble_eq_true rfl) dL_refused_53 ⟨Nat.zero_le _, Nat.zero_le _⟩ hK hN hXS hA hO hS (fun g' hl' N' u' n' rn' rd' x H locs hO hS hz hk hch hp => ?_)
  obtain ⟨rfl, rfl, rfl, rfl⟩ := PSm_s hp
  obtain ⟨rfl, rfl, rfl, rfl⟩ := MS_rs hch (m_lt (by omega) (by omega))
  refine lv_bipush (v := -nI 12) hx hb dL_refused_56 (by decide) ?_
  refine lv_icmp_ne (tgt := 226) hx hb dL_refused_58 (by decide) (fun hq => absurd rfl hq) (fun _ => ?_)
  refine lv_aload_n hx hb dL_refused_61 rfl (lv_at hl 4 rfl) ?_
  refine lv_iconst (v := nI 0) hx hb dL_refused_62 (by decide) ?_
  refine lv_iconst (v := nI 5) hx hb dL_refused_63 (by decide) ?_
  refine oc_hang hF (IN_hang_bad (OBJ_G hO) (Or.inr (Or.inr (by decide +kernel)))) (cwV 2 hts gL_refused_X9_hang rfl rfl rfl (by decide +kernel) ⟨Nat.le_of_ble_eq_true rfl, Nat.le_of_ble_eq_true rfl⟩) (Nat.le_of_ble_eq_true rfl) hl (Nat.le_of_ble_eq_true rfl) dL_refused_64 ⟨Nat.zero_le _, Nat.zero_le _⟩ hK hN hXS hA hO hS (fun g' hl' N' u' n' rn' rd' x H locs hO hS hz hk hch hp => ?_)
  obtain ⟨rfl, rfl, rfl, rfl⟩ := PSm_s hp
  obtain ⟨rfl, rfl, rfl, rfl⟩ := MS_rs hch (m_lt (by omega) (by omega))
  refine lv_bipush (v := -nI 12) hx hb dL_refused_67 (by decide) ?_
  refine lv_icmp_ne (tgt := 226) hx hb dL_refused_69 (by decide) (fun hq => absurd rfl hq) (fun _ => ?_)
  refine lv_aload_n hx hb dL_refused_72 rfl (lv_at hl 4 rfl) ?_
  refine lv_iload_n hx hb dL_refused_73 rfl (lv_at hl 2 rfl) ?_
  refine lv_bipush (v := nI 9) hx hb dL_refused_74 (by decide) ?_
  refine lv_iconst (v := nI 0) hx hb dL_refused_76 (by decide) ?_
  refine oc_wire hF (IN_wire_none (OBJ_G hO) (Or.inl hno)) (cwV 3 hts gL_refused_X9_wire rfl rfl rfl (by decide +kernel) ⟨Nat.le_of_ble_eq_true rfl, Nat.le_of_ble_eq_true rfl⟩) (Nat.le_of_ble_eq_true rfl) hl (Nat.le_of_ble_eq_true rfl) dL_refused_77 ⟨Nat.zero_le _, Nat.zero_le _⟩ hK hN hXS hA hO hS (fun g' hl' N' u' n' rn' rd' x H locs hO hS hz hk hch hp => ?_)
  obtain ⟨rfl, rfl, rfl, rfl⟩ := PSm_s hp
  obtain ⟨rfl, rfl, rfl, rfl⟩ := MS_rs hch (m_lt (by omega) (by omega))
  refine lv_bipush (v := -nI 11) hx hb dL_refused_80 (by decide) ?_
  refine lv_icmp_ne (tgt := 226) hx hb dL_refused_82 (by decide) (fun hq => absurd rfl hq) (fun _ => ?_)
  refine lv_aload_n hx hb dL_refused_85 rfl (lv_at hl 4 rfl) ?_
  refine lv_iconst (v := nI 0) hx hb dL_refused_86 (by decide) ?_
  refine lv_bipush (v := nI 9) hx hb dL_refused_87 (by decide) ?_
  refine lv_iload_n hx hb dL_refused_89 rfl (lv_at hl 2 rfl) ?_
  refine oc_wire hF (IN_wire_none (OBJ_G hO) (Or.inr ⟨⟨0, h0g, rfl⟩, hno⟩)) (cwV 3 hts gL_refused_X9_wire rfl rfl rfl (by decide +kernel) ⟨Nat.le_of_ble_eq_true rfl, Nat.le_of_ble_eq_true rfl⟩) (Nat.le_of_ble_eq_true rfl) hl (Nat.le_of_ble_eq_true rfl) dL_refused_90 ⟨Nat.zero_le _, Nat.zero_le _⟩ hK hN hXS hA hO hS (fun g' hl' N' u' n' rn' rd' x H locs hO hS hz hk hch hp => ?_)
  obtain ⟨rfl, rfl, rfl, rfl⟩ := PSm_s hp
  obtain ⟨rfl, rfl, rfl, rfl⟩ := MS_rs hch (m_lt (by omega) (by omega))
  refine lv_bipush (v := -nI 11) hx hb dL_refused_93 (by decide) ?_
  refine lv_icmp_ne (tgt := 226) hx hb dL_refused_95 (by decide) (fun hq => absurd rfl hq) (fun _ => ?_)
  refine lv_aload_n hx hb dL_refused_98 rfl (lv_at hl 4 rfl) ?_
  refine lv_iconst (v := -nI 1) hx hb dL_refused_99 (by decide) ?_
  refine lv_iconst (v := nI 0) hx hb dL_refused_100 (by decide) ?_
  refine lv_iconst (v := nI 0) hx hb dL_refused_101 (by decide) ?_
  refine oc_wire hF (IN_wire_none (OBJ_G hO) (Or.inl hnm)) (cwV 3 hts gL_refused_X9_wire rfl rfl rfl (by decide +kernel) ⟨Nat.le_of_ble_eq_true rfl, Nat.le_of_ble_eq_true rfl⟩) (Nat.le_of_ble_eq_true rfl) hl (Nat.le_of_ble_eq_true rfl) dL_refused_102 ⟨Nat.zero_le _, Nat.zero_le _⟩ hK hN hXS hA hO hS (fun g' hl' N' u' n' rn' rd' x H locs hO hS hz hk hch hp => ?_)
  obtain ⟨rfl, rfl, rfl, rfl⟩ := PSm_s hp
  obtain ⟨rfl, rfl, rfl, rfl⟩ := MS_rs hch (m_lt (by omega) (by omega))
  refine lv_bipush (v := -nI 11) hx hb dL_refused_105 (by decide) ?_
  refine lv_icmp_ne (tgt := 226) hx hb dL_refused_107 (by decide) (fun hq => absurd rfl hq) (fun _ => ?_)
  refine lv_aload_n hx hb dL_refused_110 rfl (lv_at hl 4 rfl) ?_
  refine lv_iconst (v := nI 0) hx hb dL_refused_111 (by decide) ?_
  refine lv_iconst (v := nI 3) hx hb dL_refused_112 (by decide) ?_
  refine lv_iconst (v := nI 0) hx hb dL_refused_113 (by decide) ?_
  refine oc_wire hF (IN_wire_bad (OBJ_G hO) (l := 0) (f := 0) h0g h0g (Or.inr (by decide +kernel))) (cwV 3 hts gL_refused_X9_wire rfl rfl rfl (by decide +kernel) ⟨Nat.le_of_ble_eq_true rfl, Nat.le_of_ble_eq_true rfl⟩) (Nat.le_of_ble_eq_true rfl) hl (Nat.le_of_ble_eq_true rfl) dL_refused_114 ⟨Nat.zero_le _, Nat.zero_le _⟩ hK hN hXS hA hO hS (fun g' hl' N' u' n' rn' rd' x H locs hO hS hz hk hch hp => ?_)
  obtain ⟨rfl, rfl, rfl, rfl⟩ := PSm_s hp
  obtain ⟨rfl, rfl, rfl, rfl⟩ := MS_rs hch (m_lt (by omega) (by omega))
  refine lv_bipush (v := -nI 12) hx hb dL_refused_117 (by decide) ?_
  refine lv_icmp_ne (tgt := 226) hx hb dL_refused_119 (by decide) (fun hq => absurd rfl hq) (fun _ => ?_)
  refine lv_aload_n hx hb dL_refused_122 rfl (lv_at hl 4 rfl) ?_
  refine lv_iconst (v := nI 0) hx hb dL_refused_123 (by decide) ?_
  refine lv_iconst (v := -nI 1) hx hb dL_refused_124 (by decide) ?_
  refine lv_iconst (v := nI 0) hx hb dL_refused_125 (by decide) ?_
  refine oc_wire hF (IN_wire_bad (OBJ_G hO) (l := 0) (f := 0) h0g h0g (Or.inl (by decide +kernel))) (cwV 3 hts gL_refused_X9_wire rfl rfl rfl (by decide +kernel) ⟨Nat.le_of_ble_eq_true rfl, Nat.le_of_ble_eq_true rfl⟩) (Nat.le_of_ble_eq_true rfl) hl (Nat.le_of_ble_eq_true rfl) dL_refused_126 ⟨Nat.zero_le _, Nat.zero_le _⟩ hK hN hXS hA hO hS (fun g' hl' N' u' n' rn' rd' x H locs hO hS hz hk hch hp => ?_)
  obtain ⟨rfl, rfl, rfl, rfl⟩ := PSm_s hp
  obtain ⟨rfl, rfl, rfl, rfl⟩ := MS_rs hch (m_lt (by omega) (by omega))
  refine lv_bipush (v := -nI 12) hx hb dL_refused_129 (by decide) ?_
  refine lv_icmp_ne (tgt := 226) hx hb dL_refused_131 (by decide) (fun hq => absurd rfl hq) (fun _ => ?_)
  refine lv_aload_n hx hb dL_refused_134 rfl (lv_at hl 4 rfl) ?_
  refine lv_iload_n hx hb dL_refused_135 rfl (lv_at hl 2 rfl) ?_
  refine lv_bipush (v := nI 9) hx hb dL_refused_136 (by decide) ?_
  refine oc_cut hF (IN_cut_none (OBJ_G hO) hno) (cwV 2 hts gL_refused_X9_cut rfl rfl rfl (by decide +kernel) ⟨Nat.le_of_ble_eq_true rfl, Nat.le_of_ble_eq_true rfl⟩) (Nat.le_of_ble_eq_true rfl) hl (Nat.le_of_ble_eq_true rfl) dL_refused_138 ⟨Nat.zero_le _, Nat.zero_le _⟩ hK hN hXS hA hO hS (fun g' hl' N' u' n' rn' rd' x H locs hO hS hz hk hch hp => ?_)
  obtain ⟨rfl, rfl, rfl, rfl⟩ := PSm_s hp
  obtain ⟨rfl, rfl, rfl, rfl⟩ := MS_rs hch (m_lt (by omega) (by omega))
  refine lv_bipush (v := -nI 11) hx hb dL_refused_141 (by decide) ?_
  refine lv_icmp_ne (tgt := 226) hx hb dL_refused_143 (by decide) (fun hq => absurd rfl hq) (fun _ => ?_)
  refine lv_aload_n hx hb dL_refused_146 rfl (lv_at hl 4 rfl) ?_
  refine lv_iconst (v := nI 0) hx hb dL_refused_147 (by decide) ?_
  refine lv_iconst (v := nI 3) hx hb dL_refused_148 (by decide) ?_
  refine oc_cut hF (IN_cut_bad (OBJ_G hO) (l := 0) h0g (Or.inr (by decide +kernel))) (cwV 2 hts gL_refused_X9_cut rfl rfl rfl (by decide +kernel) ⟨Nat.le_of_ble_eq_true rfl, Nat.le_of_ble_eq_true rfl⟩) (Nat.le_of_ble_eq_true rfl) hl (Nat.le_of_ble_eq_true rfl) dL_refused_149 ⟨Nat.zero_le _, Nat.zero_le _⟩ hK hN hXS hA hO hS (fun g' hl' N' u' n' rn' rd' x H locs hO hS hz hk hch hp => ?_)
  obtain ⟨rfl, rfl, rfl, rfl⟩ := PSm_s hp
  obtain ⟨rfl, rfl, rfl, rfl⟩ := MS_rs hch (m_lt (by omega) (by omega))
  refine lv_bipush (v := -nI 12) hx hb dL_refused_152 (by decide) ?_
  refine lv_icmp_ne (tgt := 226) hx hb dL_refused_154 (by decide) (fun hq => absurd rfl hq) (fun _ => ?_)
  refine lv_aload_n hx hb dL_refused_157 rfl (lv_at hl 4 rfl) ?_
  refine lv_iload_n hx hb dL_refused_158 rfl (lv_at hl 2 rfl) ?_
  refine lv_iconst (v := nI 1) hx hb dL_refused_159 (by decide) ?_
  refine oc_set hF (IN_set_none (OBJ_G hO) hno) (cwV 2 hts gL_refused_X9_set rfl rfl rfl (by decide +kernel) ⟨Nat.le_of_ble_eq_true rfl, Nat.le_of_ble_eq_true rfl⟩) (Nat.le_of_ble_eq_true rfl) hl (Nat.le_of_ble_eq_true rfl) dL_refused_160 ⟨Nat.zero_le _, Nat.zero_le _⟩ hK hN hXS hA hO hS (fun g' hl' N' u' n' rn' rd' x H locs hO hS hz hk hch hp => ?_)
  obtain ⟨rfl, rfl, rfl, rfl⟩ := PSm_s hp
  obtain ⟨rfl, rfl, rfl, rfl⟩ := MS_rs hch (m_lt (by omega) (by omega))
  refine lv_bipush (v := -nI 11) hx hb dL_refused_163 (by decide) ?_
  refine lv_icmp_ne (tgt := 226) hx hb dL_refused_165 (by decide) (fun hq => absurd rfl hq) (fun _ => ?_)
  refine lv_aload_n hx hb dL_refused_168 rfl (lv_at hl 4 rfl) ?_
  refine lv_iconst (v := -nI 1) hx hb dL_refused_169 (by decide) ?_
  refine lv_iconst (v := nI 0) hx hb dL_refused_170 (by decide) ?_
  refine oc_set hF (IN_set_none (OBJ_G hO) hnm) (cwV 2 hts gL_refused_X9_set rfl rfl rfl (by decide +kernel) ⟨Nat.le_of_ble_eq_true rfl, Nat.le_of_ble_eq_true rfl⟩) (Nat.le_of_ble_eq_true rfl) hl (Nat.le_of_ble_eq_true rfl) dL_refused_171 ⟨Nat.zero_le _, Nat.zero_le _⟩ hK hN hXS hA hO hS (fun g' hl' N' u' n' rn' rd' x H locs hO hS hz hk hch hp => ?_)
  obtain ⟨rfl, rfl, rfl, rfl⟩ := PSm_s hp
  obtain ⟨rfl, rfl, rfl, rfl⟩ := MS_rs hch (m_lt (by omega) (by omega))
  refine lv_bipush (v := -nI 11) hx hb dL_refused_174 (by decide) ?_
  refine lv_icmp_ne (tgt := 226) hx hb dL_refused_176 (by decide) (fun hq => absurd rfl hq) (fun _ => ?_)
  refine lv_aload_n hx hb dL_refused_179 rfl (lv_at hl 4 rfl) ?_
  refine lv_iconst (v := nI 0) hx hb dL_refused_180 (by decide) ?_
  refine oc_tick hF (IN_tick_bad (OBJ_G hO) (Or.inl (by decide +kernel))) (cwV 1 hts gL_refused_X9_tick rfl rfl rfl (by decide +kernel) ⟨Nat.le_of_ble_eq_true rfl, Nat.le_of_ble_eq_true rfl⟩) (Nat.le_of_ble_eq_true rfl) hl (Nat.le_of_ble_eq_true rfl) dL_refused_181 ⟨Nat.zero_le _, Nat.zero_le _⟩ hK hN hXS hA hO hS (fun g' hl' N' u' n' rn' rd' x H locs hO hS hz hk hch hp => ?_)
  obtain ⟨rfl, rfl, rfl, rfl⟩ := PSm_s hp
  obtain ⟨rfl, rfl, rfl, rfl⟩ := MS_rs hch (m_lt (by omega) (by omega))
  refine lv_bipush (v := -nI 12) hx hb dL_refused_184 (by decide) ?_
  refine lv_icmp_ne (tgt := 226) hx hb dL_refused_186 (by decide) (fun hq => absurd rfl hq) (fun _ => ?_)
  refine lv_aload_n hx hb dL_refused_189 rfl (lv_at hl 4 rfl) ?_
  refine lv_bipush (v := nI 100) hx hb dL_refused_190 (by decide) ?_
  refine oc_tick hF (IN_tick_bad (OBJ_G hO) (Or.inr (by decide +kernel))) (cwV 1 hts gL_refused_X9_tick rfl rfl rfl (by decide +kernel) ⟨Nat.le_of_ble_eq_true rfl, Nat.le_of_ble_eq_true rfl⟩) (Nat.le_of_ble_eq_true rfl) hl (Nat.le_of_ble_eq_true rfl) dL_refused_192 ⟨Nat.zero_le _, Nat.zero_le _⟩ hK hN hXS hA hO hS (fun g' hl' N' u' n' rn' rd' x H locs hO hS hz hk hch hp => ?_)
  obtain ⟨rfl, rfl, rfl, rfl⟩ := PSm_s hp
  obtain ⟨rfl, rfl, rfl, rfl⟩ := MS_rs hch (m_lt (by omega) (by omega))
  refine lv_bipush (v := -nI 12) hx hb dL_refused_195 (by decide) ?_
  refine lv_icmp_ne (tgt := 226) hx hb dL_refused_197 (by decide) (fun hq => absurd rfl hq) (fun _ => ?_)
  refine lv_aload_n hx hb dL_refused_200 rfl (lv_at hl 4 rfl) ?_
  refine lv_iconst (v := nI 0) hx hb dL_refused_201 (by decide) ?_
  refine lv_iconst (v := nI 0) hx hb dL_refused_202 (by decide) ?_
  refine oc_reason hF (reason_q (OBJ_nr hO) (i := 0) (b := 0) (by omega) (by omega)) (cwV 2 hts gL_refused_X9_reason rfl rfl rfl (by decide +kernel) ⟨Nat.le_of_ble_eq_true rfl, Nat.le_of_ble_eq_true rfl⟩) (Nat.le_of_ble_eq_true rfl) hl (Nat.le_of_ble_eq_true rfl) dL_refused_203 ⟨Nat.zero_le _, Nat.zero_le _⟩ hK hN hXS hA hO hS (fun H locs hO hS hz hk => ?_)
  refine lv_iload hx hb dL_refused_206 (lv_at hl 1 rfl) ?_
  refine lv_icmp_ne (tgt := 226) hx hb dL_refused_208 (by decide) (fun hq => absurd rfl hq) (fun _ => ?_)
  refine lv_aload_n hx hb dL_refused_211 rfl (lv_at hl 4 rfl) ?_
  refine lv_iconst (v := nI 0) hx hb dL_refused_212 (by decide) ?_
  refine lv_iconst (v := nI 1) hx hb dL_refused_213 (by decide) ?_
  refine oc_reason hF (reason_q (OBJ_nr hO) (i := 0) (b := 1) (by omega) (by omega)) (cwV 2 hts gL_refused_X9_reason rfl rfl rfl (by decide +kernel) ⟨Nat.le_of_ble_eq_true rfl, Nat.le_of_ble_eq_true rfl⟩) (Nat.le_of_ble_eq_true rfl) hl (Nat.le_of_ble_eq_true rfl) dL_refused_214 ⟨Nat.zero_le _, Nat.zero_le _⟩ hK hN hXS hA hO hS (fun H locs hO hS hz hk => ?_)
  refine lv_iload hx hb dL_refused_217 (lv_at hl 0 rfl) ?_
  refine lv_icmp_ne (tgt := 226) hx hb dL_refused_219 (by decide) (fun hq => absurd rfl hq) (fun _ => ?_)
  refine lv_iconst (v := nI 1) hx hb dL_refused_222 (by decide) ?_
  refine lv_goto (tgt := 227) hx hb dL_refused_223 (by decide) ?_
  refine lv_istore (lv' := [(6, .int (nI 1)), (5, .int (RS nr rn rd 0 1)), (4, .int (RS nr rn rd 0 0)), (3, .int (nI 9)), (1, .long (fAsk g)), (0, .ref q)]) hx hb dL_refused_227 hl (by decide) rfl (fun ls hl => ?_)
  refine lv_iload hx hb dL_refused_229 (lv_at hl 0 rfl) ?_
  refine lv_if_eq (tgt := 526) hx hb dL_refused_231 (by decide) (fun hq => absurd hq n10) (fun _ => ?_)
  refine lv_aload_n hx hb dL_refused_234 rfl (lv_at hl 5 rfl) ?_
  refine lv_iload_n hx hb dL_refused_235 rfl (lv_at hl 3 rfl) ?_
  refine lv_bipush (v := nI 9) hx hb dL_refused_236 (by decide) ?_
  refine oc_lanternOf hF (cwV 2 hts gL_refused_X9_lanternOf rfl rfl rfl (by decide +kernel) ⟨Nat.le_of_ble_eq_true rfl, Nat.le_of_ble_eq_true rfl⟩) (Nat.le_of_ble_eq_true rfl) hl (Nat.le_of_ble_eq_true rfl) dL_refused_238 ⟨Nat.zero_le _, Nat.zero_le _⟩ hK hN hXS hA hO hS (fun H locs hO hS hz hk => ?_)
  rw [qe_lanternOf_none hQE hno]
  refine lv_bipush (v := -nI 11) hx hb dL_refused_241 (by decide) ?_
  refine lv_icmp_ne (tgt := 526) hx hb dL_refused_243 (by decide) (fun hq => absurd rfl hq) (fun _ => ?_)
  refine lv_aload_n hx hb dL_refused_246 rfl (lv_at hl 5 rfl) ?_
  refine lv_iconst (v := nI 0) hx hb dL_refused_247 (by decide) ?_
  refine lv_bipush (v := nI 8) hx hb dL_refused_248 (by decide) ?_
  refine oc_lanternOf hF (cwV 2 hts gL_refused_X9_lanternOf rfl rfl rfl (by decide +kernel) ⟨Nat.le_of_ble_eq_true rfl, Nat.le_of_ble_eq_true rfl⟩) (Nat.le_of_ble_eq_true rfl) hl (Nat.le_of_ble_eq_true rfl) dL_refused_250 ⟨Nat.zero_le _, Nat.zero_le _⟩ hK hN hXS hA hO hS (fun H locs hO hS hz hk => ?_)
  rw [qe_lanternOf_bad hQE (l := 0) h0g (fun i hi h => by have := (nI_eq (by omega) (by omega)).1 h; omega)]
  refine lv_bipush (v := -nI 12) hx hb dL_refused_253 (by decide) ?_
  refine lv_icmp_ne (tgt := 526) hx hb dL_refused_255 (by decide) (fun hq => absurd rfl hq) (fun _ => ?_)
  refine lv_aload_n hx hb dL_refused_258 rfl (lv_at hl 5 rfl) ?_
  refine lv_iconst (v := nI 0) hx hb dL_refused_259 (by decide) ?_
  refine lv_iconst (v := -nI 1) hx hb dL_refused_260 (by decide) ?_
  refine oc_lanternOf hF (cwV 2 hts gL_refused_X9_lanternOf rfl rfl rfl (by decide +kernel) ⟨Nat.le_of_ble_eq_true rfl, Nat.le_of_ble_eq_true rfl⟩) (Nat.le_of_ble_eq_true rfl) hl (Nat.le_of_ble_eq_true rfl) dL_refused_261 ⟨Nat.zero_le _, Nat.zero_le _⟩ hK hN hXS hA hO hS (fun H locs hO hS hz hk => ?_)
  rw [qe_lanternOf_bad hQE (l := 0) h0g (fun i hi h => (ng_eqn (by omega) (by omega) (by omega)).1 h)]
  refine lv_bipush (v := -nI 12) hx hb dL_refused_264 (by decide) ?_
  refine lv_icmp_ne (tgt := 526) hx hb dL_refused_266 (by decide) (fun hq => absurd rfl hq) (fun _ => ?_)
  refine lv_aload_n hx hb dL_refused_269 rfl (lv_at hl 5 rfl) ?_
  refine lv_iload_n hx hb dL_refused_270 rfl (lv_at hl 3 rfl) ?_
  refine lv_bipush (v := nI 9) hx hb dL_refused_271 (by decide) ?_
  refine oc_wireOf hF (cwV 2 hts gL_refused_X9_wireOf rfl rfl rfl (by decide +kernel) ⟨Nat.le_of_ble_eq_true rfl, Nat.le_of_ble_eq_true rfl⟩) (Nat.le_of_ble_eq_true rfl) hl (Nat.le_of_ble_eq_true rfl) dL_refused_273 ⟨Nat.zero_le _, Nat.zero_le _⟩ hK hN hXS hA hO hS (fun H locs hO hS hz hk => ?_)
  rw [qe_wireOf_none hQE hno]
  refine lv_bipush (v := -nI 11) hx hb dL_refused_276 (by decide) ?_
  refine lv_icmp_ne (tgt := 526) hx hb dL_refused_278 (by decide) (fun hq => absurd rfl hq) (fun _ => ?_)
  refine lv_aload_n hx hb dL_refused_281 rfl (lv_at hl 5 rfl) ?_
  refine lv_iconst (v := nI 0) hx hb dL_refused_282 (by decide) ?_
  refine lv_iconst (v := nI 3) hx hb dL_refused_283 (by decide) ?_
  refine oc_wireOf hF (cwV 2 hts gL_refused_X9_wireOf rfl rfl rfl (by decide +kernel) ⟨Nat.le_of_ble_eq_true rfl, Nat.le_of_ble_eq_true rfl⟩) (Nat.le_of_ble_eq_true rfl) hl (Nat.le_of_ble_eq_true rfl) dL_refused_284 ⟨Nat.zero_le _, Nat.zero_le _⟩ hK hN hXS hA hO hS (fun H locs hO hS hz hk => ?_)
  rw [qe_wireOf_bad hQE (l := 0) h0g (Or.inr (by decide +kernel))]
  refine lv_bipush (v := -nI 12) hx hb dL_refused_287 (by decide) ?_
  refine lv_icmp_ne (tgt := 526) hx hb dL_refused_289 (by decide) (fun hq => absurd rfl hq) (fun _ => ?_)
  refine lv_aload_n hx hb dL_refused_292 rfl (lv_at hl 5 rfl) ?_
  refine lv_iconst (v := nI 0) hx hb dL_refused_293 (by decide) ?_
  refine lv_iconst (v := nI 0) hx hb dL_refused_294 (by decide) ?_
  refine oc_wireOf hF (cwV 2 hts gL_refused_X9_wireOf rfl rfl rfl (by decide +kernel) ⟨Nat.le_of_ble_eq_true rfl, Nat.le_of_ble_eq_true rfl⟩) (Nat.le_of_ble_eq_true rfl) hl (Nat.le_of_ble_eq_true rfl) dL_refused_295 ⟨Nat.zero_le _, Nat.zero_le _⟩ hK hN hXS hA hO hS (fun H locs hO hS hz hk => ?_)
  rw [qe_wireOf hQE (l := 0) (p := 0) h0g (by omega), if_pos hs0]
  refine lv_bipush (v := -nI 15) hx hb dL_refused_298 (by decide) ?_
  refine lv_icmp_ne (tgt := 526) hx hb dL_refused_300 (by decide) (fun hq => absurd rfl hq) (fun _ => ?_)
  refine lv_aload_n hx hb dL_refused_303 rfl (lv_at hl 5 rfl) ?_
  refine lv_iload_n hx hb dL_refused_304 rfl (lv_at hl 3 rfl) ?_
  refine oc_leads hF (cwV 1 hts gL_refused_X9_leads rfl rfl rfl (by decide +kernel) ⟨Nat.le_of_ble_eq_true rfl, Nat.le_of_ble_eq_true rfl⟩) (Nat.le_of_ble_eq_true rfl) hl (Nat.le_of_ble_eq_true rfl) dL_refused_305 ⟨Nat.zero_le _, Nat.zero_le _⟩ hK hN hXS hA hO hS (fun H locs hO hS hz hk => ?_)
  rw [qe_leads_none hQE hno]
  refine lv_bipush (v := -nI 11) hx hb dL_refused_308 (by decide) ?_
  refine lv_icmp_ne (tgt := 526) hx hb dL_refused_310 (by decide) (fun hq => absurd rfl hq) (fun _ => ?_)
  refine lv_aload_n hx hb dL_refused_313 rfl (lv_at hl 5 rfl) ?_
  refine lv_iconst (v := -nI 1) hx hb dL_refused_314 (by decide) ?_
  refine oc_leads hF (cwV 1 hts gL_refused_X9_leads rfl rfl rfl (by decide +kernel) ⟨Nat.le_of_ble_eq_true rfl, Nat.le_of_ble_eq_true rfl⟩) (Nat.le_of_ble_eq_true rfl) hl (Nat.le_of_ble_eq_true rfl) dL_refused_315 ⟨Nat.zero_le _, Nat.zero_le _⟩ hK hN hXS hA hO hS (fun H locs hO hS hz hk => ?_)
  rw [qe_leads_none hQE hnm]
  refine lv_bipush (v := -nI 11) hx hb dL_refused_318 (by decide) ?_
  refine lv_icmp_ne (tgt := 526) hx hb dL_refused_320 (by decide) (fun hq => absurd rfl hq) (fun _ => ?_)
  refine lv_aload_n hx hb dL_refused_323 rfl (lv_at hl 5 rfl) ?_
  refine lv_iload_n hx hb dL_refused_324 rfl (lv_at hl 3 rfl) ?_
  refine oc_depth hF (cwV 1 hts gL_refused_X9_depth rfl rfl rfl (by decide +kernel) ⟨Nat.le_of_ble_eq_true rfl, Nat.le_of_ble_eq_true rfl⟩) (Nat.le_of_ble_eq_true rfl) hl (Nat.le_of_ble_eq_true rfl) dL_refused_325 ⟨Nat.zero_le _, Nat.zero_le _⟩ hK hN hXS hA hO hS (fun H locs hO hS hz hk => ?_)
  rw [qe_depth_none hQE hno]
  refine lv_bipush (v := -nI 11) hx hb dL_refused_328 (by decide) ?_
  refine lv_icmp_ne (tgt := 526) hx hb dL_refused_330 (by decide) (fun hq => absurd rfl hq) (fun _ => ?_)
  refine lv_aload_n hx hb dL_refused_333 rfl (lv_at hl 5 rfl) ?_
  refine lv_iconst (v := -nI 1) hx hb dL_refused_334 (by decide) ?_
  refine oc_depthAgain hF (cwV 1 hts gL_refused_X9_depthAgain rfl rfl rfl (by decide +kernel) ⟨Nat.le_of_ble_eq_true rfl, Nat.le_of_ble_eq_true rfl⟩) (Nat.le_of_ble_eq_true rfl) hl (Nat.le_of_ble_eq_true rfl) dL_refused_335 ⟨Nat.zero_le _, Nat.zero_le _⟩ hK hN hXS hA hO hS (fun H locs hO hS hz hk => ?_)
  rw [qe_depth_none hQE hnm]
  refine lv_bipush (v := -nI 11) hx hb dL_refused_338 (by decide) ?_
  refine lv_icmp_ne (tgt := 526) hx hb dL_refused_340 (by decide) (fun hq => absurd rfl hq) (fun _ => ?_)
  refine lv_aload_n hx hb dL_refused_343 rfl (lv_at hl 5 rfl) ?_
  refine lv_iload_n hx hb dL_refused_344 rfl (lv_at hl 3 rfl) ?_
  refine lv_iconst (v := nI 0) hx hb dL_refused_345 (by decide) ?_
  refine oc_flickers hF (cwV 2 hts gL_refused_X9_flickers rfl rfl rfl (by decide +kernel) ⟨Nat.le_of_ble_eq_true rfl, Nat.le_of_ble_eq_true rfl⟩) (Nat.le_of_ble_eq_true rfl) hl (Nat.le_of_ble_eq_true rfl) dL_refused_346 ⟨Nat.zero_le _, Nat.zero_le _⟩ hK hN hXS hA hO hS (fun H locs hO hS hz hk => ?_)
  rw [qe_flickers_none hQE (Or.inl hno)]
  refine lv_bipush (v := -nI 11) hx hb dL_refused_349 (by decide) ?_
  refine lv_icmp_ne (tgt := 526) hx hb dL_refused_351 (by decide) (fun hq => absurd rfl hq) (fun _ => ?_)
  refine lv_aload_n hx hb dL_refused_354 rfl (lv_at hl 5 rfl) ?_
  refine lv_iconst (v := nI 0) hx hb dL_refused_355 (by decide) ?_
  refine lv_iload_n hx hb dL_refused_356 rfl (lv_at hl 3 rfl) ?_
  refine oc_flickers hF (cwV 2 hts gL_refused_X9_flickers rfl rfl rfl (by decide +kernel) ⟨Nat.le_of_ble_eq_true rfl, Nat.le_of_ble_eq_true rfl⟩) (Nat.le_of_ble_eq_true rfl) hl (Nat.le_of_ble_eq_true rfl) dL_refused_357 ⟨Nat.zero_le _, Nat.zero_le _⟩ hK hN hXS hA hO hS (fun H locs hO hS hz hk => ?_)
  rw [qe_flickers_none hQE (Or.inr ⟨⟨0, h0g, rfl⟩, hno⟩)]
  refine lv_bipush (v := -nI 11) hx hb dL_refused_360 (by decide) ?_
  refine lv_icmp_ne (tgt := 526) hx hb dL_refused_362 (by decide) (fun hq => absurd rfl hq) (fun _ => ?_)
  refine lv_aload_n hx hb dL_refused_365 rfl (lv_at hl 5 rfl) ?_
  refine lv_iconst (v := nI 0) hx hb dL_refused_366 (by decide) ?_
  refine lv_iconst (v := nI 0) hx hb dL_refused_367 (by decide) ?_
  refine oc_flickers hF (cwV 2 hts gL_refused_X9_flickers rfl rfl rfl (by decide +kernel) ⟨Nat.le_of_ble_eq_true rfl, Nat.le_of_ble_eq_true rfl⟩) (Nat.le_of_ble_eq_true rfl) hl (Nat.le_of_ble_eq_true rfl) dL_refused_368 ⟨Nat.zero_le _, Nat.zero_le _⟩ hK hN hXS hA hO hS (fun H locs hO hS hz hk => ?_)
  rw [qe_flickers_sw hQE (l := 0) (b := 0) h0g h0g hk0]
  refine lv_bipush (v := -nI 12) hx hb dL_refused_371 (by decide) ?_
  refine lv_icmp_ne (tgt := 526) hx hb dL_refused_373 (by decide) (fun hq => absurd rfl hq) (fun _ => ?_)
  refine lv_aload_n hx hb dL_refused_376 rfl (lv_at hl 5 rfl) ?_
  refine lv_iload_n hx hb dL_refused_377 rfl (lv_at hl 3 rfl) ?_
  refine oc_switchesOf hF (cwV 1 hts gL_refused_X9_switchesOf rfl rfl rfl (by decide +kernel) ⟨Nat.le_of_ble_eq_true rfl, Nat.le_of_ble_eq_true rfl⟩) (Nat.le_of_ble_eq_true rfl) hl (Nat.le_of_ble_eq_true rfl) dL_refused_378 ⟨Nat.zero_le _, Nat.zero_le _⟩ hK hN hXS hA hO hS (fun H locs hO hS hz hk => ?_)
  rw [qe_switchesOf_none hQE hno]
  refine lv_bipush (v := -nI 11) hx hb dL_refused_381 (by decide) ?_
  refine lv_icmp_ne (tgt := 526) hx hb dL_refused_383 (by decide) (fun hq => absurd rfl hq) (fun _ => ?_)
  refine lv_aload_n hx hb dL_refused_386 rfl (lv_at hl 5 rfl) ?_
  refine lv_iload_n hx hb dL_refused_387 rfl (lv_at hl 3 rfl) ?_
  refine oc_table hF (cwV 1 hts gL_refused_X9_table rfl rfl rfl (by decide +kernel) ⟨Nat.le_of_ble_eq_true rfl, Nat.le_of_ble_eq_true rfl⟩) (Nat.le_of_ble_eq_true rfl) hl (Nat.le_of_ble_eq_true rfl) dL_refused_388 ⟨Nat.zero_le _, Nat.zero_le _⟩ hK hN hXS hA hO hS (fun H locs hO hS hz hk => ?_)
  rw [qe_table_none hQE hno]
  refine lv_bipush (v := -nI 11) hx hb dL_refused_391 (by decide) ?_
  refine lv_icmp_ne (tgt := 526) hx hb dL_refused_393 (by decide) (fun hq => absurd rfl hq) (fun _ => ?_)
  refine lv_aload_n hx hb dL_refused_396 rfl (lv_at hl 5 rfl) ?_
  refine lv_iconst (v := -nI 1) hx hb dL_refused_397 (by decide) ?_
  refine oc_tableAgain hF (cwV 1 hts gL_refused_X9_tableAgain rfl rfl rfl (by decide +kernel) ⟨Nat.le_of_ble_eq_true rfl, Nat.le_of_ble_eq_true rfl⟩) (Nat.le_of_ble_eq_true rfl) hl (Nat.le_of_ble_eq_true rfl) dL_refused_398 ⟨Nat.zero_le _, Nat.zero_le _⟩ hK hN hXS hA hO hS (fun H locs hO hS hz hk => ?_)
  rw [qe_table_none hQE hnm]
  refine lv_bipush (v := -nI 11) hx hb dL_refused_401 (by decide) ?_
  refine lv_icmp_ne (tgt := 526) hx hb dL_refused_403 (by decide) (fun hq => absurd rfl hq) (fun _ => ?_)
  refine lv_aload_n hx hb dL_refused_406 rfl (lv_at hl 5 rfl) ?_
  refine lv_iconst (v := nI 0) hx hb dL_refused_407 (by decide) ?_
  refine oc_table hF (cwV 1 hts gL_refused_X9_table rfl rfl rfl (by decide +kernel) ⟨Nat.le_of_ble_eq_true rfl, Nat.le_of_ble_eq_true rfl⟩) (Nat.le_of_ble_eq_true rfl) hl (Nat.le_of_ble_eq_true rfl) dL_refused_408 ⟨Nat.zero_le _, Nat.zero_le _⟩ hK hN hXS hA hO hS (fun H locs hO hS hz hk => ?_)
  rw [qe_table_sw hQE (l := 0) h0g hk0]
  refine lv_bipush (v := -nI 15) hx hb dL_refused_411 (by decide) ?_
  refine lv_icmp_ne (tgt := 526) hx hb dL_refused_413 (by decide) (fun hq => absurd rfl hq) (fun _ => ?_)
  refine lv_aload_n hx hb dL_refused_416 rfl (lv_at hl 5 rfl) ?_
  refine lv_iconst (v := nI 0) hx hb dL_refused_417 (by decide) ?_
  refine oc_tableAgain hF (cwV 1 hts gL_refused_X9_tableAgain rfl rfl rfl (by decide +kernel) ⟨Nat.le_of_ble_eq_true rfl, Nat.le_of_ble_eq_true rfl⟩) (Nat.le_of_ble_eq_true rfl) hl (Nat.le_of_ble_eq_true rfl) dL_refused_418 ⟨Nat.zero_le _, Nat.zero_le _⟩ hK hN hXS hA hO hS (fun H locs hO hS hz hk => ?_)
  rw [qe_table_sw hQE (l := 0) h0g hk0]
  refine lv_bipush (v := -nI 15) hx hb dL_refused_421 (by decide) ?_
  refine lv_icmp_ne (tgt := 526) hx hb dL_refused_423 (by decide) (fun hq => absurd rfl hq) (fun _ => ?_)
  refine lv_aload_n hx hb dL_refused_426 rfl (lv_at hl 5 rfl) ?_
  refine lv_bipush (v := nI 31) hx hb dL_refused_427 (by decide) ?_
  refine oc_append hF (x := -nI 12) (nT' := 0) (tg' := tg) (fun sg9 hT => ⟨sg9, append_bad (Or.inl (by decide +kernel)), hT⟩) (cwV 1 hts gL_refused_X9_append rfl rfl rfl (by decide +kernel) ⟨Nat.le_of_ble_eq_true rfl, Nat.le_of_ble_eq_true rfl⟩) (Nat.le_of_ble_eq_true rfl) hl (Nat.le_of_ble_eq_true rfl) dL_refused_429 ⟨Nat.zero_le _, Nat.zero_le _⟩ hK hN hXS hA hO hS (fun H locs hO hS hz hk => ?_)
  refine lv_bipush (v := -nI 12) hx hb dL_refused_432 (by decide) ?_
  refine lv_icmp_ne (tgt := 526) hx hb dL_refused_434 (by decide) (fun hq => absurd rfl hq) (fun _ => ?_)
  refine lv_aload_n hx hb dL_refused_437 rfl (lv_at hl 5 rfl) ?_
  refine lv_bipush (v := nI 127) hx hb dL_refused_438 (by decide) ?_
  refine oc_append hF (x := -nI 12) (nT' := 0) (tg' := tg) (fun sg9 hT => ⟨sg9, append_bad (Or.inr (by decide +kernel)), hT⟩) (cwV 1 hts gL_refused_X9_append rfl rfl rfl (by decide +kernel) ⟨Nat.le_of_ble_eq_true rfl, Nat.le_of_ble_eq_true rfl⟩) (Nat.le_of_ble_eq_true rfl) hl (Nat.le_of_ble_eq_true rfl) dL_refused_440 ⟨Nat.zero_le _, Nat.zero_le _⟩ hK hN hXS hA hO hS (fun H locs hO hS hz hk => ?_)
  refine lv_bipush (v := -nI 12) hx hb dL_refused_443 (by decide) ?_
  refine lv_icmp_ne (tgt := 526) hx hb dL_refused_445 (by decide) (fun hq => absurd rfl hq) (fun _ => ?_)
  refine lv_aload_n hx hb dL_refused_448 rfl (lv_at hl 5 rfl) ?_
  refine lv_iload_n hx hb dL_refused_449 rfl (lv_at hl 3 rfl) ?_
  refine oc_tellLantern hF (x := -nI 11) (nL' := q_tellN g) (lc' := q_tellC g) (fun c9 al ti tc se st9 k9 w9 so ch ls9 hC hL => ⟨ls9, lamp_none hC hno _ _, hL⟩) (cwV 1 hts gL_refused_X9_tellLantern rfl rfl rfl (by decide +kernel) ⟨Nat.le_of_ble_eq_true rfl, Nat.le_of_ble_eq_true rfl⟩) (Nat.le_of_ble_eq_true rfl) hl (Nat.le_of_ble_eq_true rfl) dL_refused_450 ⟨Nat.zero_le _, Nat.zero_le _⟩ hK hN hXS hA hO hS (fun H locs hO hS hz hk => ?_)
  refine lv_bipush (v := -nI 11) hx hb dL_refused_453 (by decide) ?_
  refine lv_icmp_ne (tgt := 526) hx hb dL_refused_455 (by decide) (fun hq => absurd rfl hq) (fun _ => ?_)
  refine lv_aload_n hx hb dL_refused_458 rfl (lv_at hl 5 rfl) ?_
  refine lv_iconst (v := -nI 1) hx hb dL_refused_459 (by decide) ?_
  refine oc_character hF (x := -nI 11) (fun ls9 h9 => char_none h9.1 (Or.inl (by decide +kernel))) (cwV 1 hts gL_refused_X9_character rfl rfl rfl (by decide +kernel) ⟨Nat.le_of_ble_eq_true rfl, Nat.le_of_ble_eq_true rfl⟩) (Nat.le_of_ble_eq_true rfl) hl (Nat.le_of_ble_eq_true rfl) dL_refused_460 ⟨Nat.zero_le _, Nat.zero_le _⟩ hK hN hXS hA hO hS (fun H locs hO hS hz hk => ?_)
  refine lv_bipush (v := -nI 11) hx hb dL_refused_463 (by decide) ?_
  refine lv_icmp_ne (tgt := 526) hx hb dL_refused_465 (by decide) (fun hq => absurd rfl hq) (fun _ => ?_)
  refine lv_aload_n hx hb dL_refused_468 rfl (lv_at hl 5 rfl) ?_
  refine lv_bipush (v := nI 40) hx hb dL_refused_469 (by decide) ?_
  refine oc_character hF (x := -nI 11) (fun ls9 h9 => char_none h9.1 (Or.inr (by decide +kernel))) (cwV 1 hts gL_refused_X9_character rfl rfl rfl (by decide +kernel) ⟨Nat.le_of_ble_eq_true rfl, Nat.le_of_ble_eq_true rfl⟩) (Nat.le_of_ble_eq_true rfl) hl (Nat.le_of_ble_eq_true rfl) dL_refused_471 ⟨Nat.zero_le _, Nat.zero_le _⟩ hK hN hXS hA hO hS (fun H locs hO hS hz hk => ?_)
  refine lv_bipush (v := -nI 11) hx hb dL_refused_474 (by decide) ?_
  refine lv_icmp_ne (tgt := 526) hx hb dL_refused_476 (by decide) (fun hq => absurd rfl hq) (fun _ => ?_)
  refine lv_aload_n hx hb dL_refused_479 rfl (lv_at hl 5 rfl) ?_
  refine lv_iconst (v := nI 3) hx hb dL_refused_480 (by decide) ?_
  refine lv_iconst (v := nI 0) hx hb dL_refused_481 (by decide) ?_
  refine oc_reason hF (reason_q (OBJ_nr hO) (i := 3) (b := 0) (by omega) (by omega)) (cwV 2 hts gL_refused_X9_reason rfl rfl rfl (by decide +kernel) ⟨Nat.le_of_ble_eq_true rfl, Nat.le_of_ble_eq_true rfl⟩) (Nat.le_of_ble_eq_true rfl) hl (Nat.le_of_ble_eq_true rfl) dL_refused_482 ⟨Nat.zero_le _, Nat.zero_le _⟩ hK hN hXS hA hO hS (fun H locs hO hS hz hk => ?_)
  refine lv_bipush (v := -nI 15) hx hb dL_refused_485 (by decide) ?_
  refine lv_icmp_ne (tgt := 526) hx hb dL_refused_487 (by decide) (fun hq => absurd (RS_e rn rd 0 (OBJ_nr hO)) hq) (fun _ => ?_)
  refine lv_aload_n hx hb dL_refused_490 rfl (lv_at hl 5 rfl) ?_
  refine lv_iconst (v := -nI 1) hx hb dL_refused_491 (by decide) ?_
  refine lv_iconst (v := nI 1) hx hb dL_refused_492 (by decide) ?_
  refine oc_reason hF (reason_neg (b := 1) (m_lt (by omega) (by omega)) (by omega)) (cwV 2 hts gL_refused_X9_reason rfl rfl rfl (by decide +kernel) ⟨Nat.le_of_ble_eq_true rfl, Nat.le_of_ble_eq_true rfl⟩) (Nat.le_of_ble_eq_true rfl) hl (Nat.le_of_ble_eq_true rfl) dL_refused_493 ⟨Nat.zero_le _, Nat.zero_le _⟩ hK hN hXS hA hO hS (fun H locs hO hS hz hk => ?_)
  refine lv_bipush (v := -nI 15) hx hb dL_refused_496 (by decide) ?_
  refine lv_icmp_ne (tgt := 526) hx hb dL_refused_498 (by decide) (fun hq => absurd rfl hq) (fun _ => ?_)
  refine lv_aload_n hx hb dL_refused_501 rfl (lv_at hl 5 rfl) ?_
  refine lv_bipush (v := nI 13) hx hb dL_refused_502 (by decide) ?_
  refine oc_account hF (cwV 1 hts gL_refused_X9_account rfl rfl rfl (by decide +kernel) ⟨Nat.le_of_ble_eq_true rfl, Nat.le_of_ble_eq_true rfl⟩) (Nat.le_of_ble_eq_true rfl) hl (Nat.le_of_ble_eq_true rfl) dL_refused_504 ⟨Nat.zero_le _, Nat.zero_le _⟩ hK hN hXS hA hO hS (fun H locs hO hS hz hk => ?_)
  rw [qe_account_bad (OBJ_G hO) hQE _ _ (fun i hi h => by have := (nI_eq (by omega) (by omega)).1 h; omega)]
  refine lv_bipush (v := -nI 12) hx hb dL_refused_507 (by decide) ?_
  refine lv_icmp_ne (tgt := 526) hx hb dL_refused_509 (by decide) (fun hq => absurd rfl hq) (fun _ => ?_)
  refine lv_aload_n hx hb dL_refused_512 rfl (lv_at hl 5 rfl) ?_
  refine lv_iconst (v := -nI 1) hx hb dL_refused_513 (by decide) ?_
  refine oc_account hF (cwV 1 hts gL_refused_X9_account rfl rfl rfl (by decide +kernel) ⟨Nat.le_of_ble_eq_true rfl, Nat.le_of_ble_eq_true rfl⟩) (Nat.le_of_ble_eq_true rfl) hl (Nat.le_of_ble_eq_true rfl) dL_refused_514 ⟨Nat.zero_le _, Nat.zero_le _⟩ hK hN hXS hA hO hS (fun H locs hO hS hz hk => ?_)
  rw [qe_account_bad (OBJ_G hO) hQE _ _ (fun i hi h => (ng_eqn (by omega) (by omega) (by omega)).1 h)]
  refine lv_bipush (v := -nI 12) hx hb dL_refused_517 (by decide) ?_
  refine lv_icmp_ne (tgt := 526) hx hb dL_refused_519 (by decide) (fun hq => absurd rfl hq) (fun _ => ?_)
  refine lv_iconst (v := nI 1) hx hb dL_refused_522 (by decide) ?_
  refine lv_goto (tgt := 527) hx hb dL_refused_523 (by decide) ?_
  refine lv_istore (lv' := [(6, .int (nI 1)), (5, .int (RS nr rn rd 0 1)), (4, .int (RS nr rn rd 0 0)), (3, .int (nI 9)), (1, .long (fAsk g)), (0, .ref q)]) hx hb dL_refused_527 hl (by decide) rfl (fun ls hl => ?_)
  refine lv_iload hx hb dL_refused_529 (lv_at hl 0 rfl) ?_
  refine lv_if_eq (tgt := 616) hx hb dL_refused_531 (by decide) (fun hq => absurd hq n10) (fun _ => ?_)
  refine lv_aload_n hx hb dL_refused_534 rfl (lv_at hl 5 rfl) ?_
  obtain ⟨qs535, hr535, hs535⟩ := hXS.2 (RL, 171, "q", [113]) (by decide +kernel)
  refine va_ldcS hx hb hown hr535 dL_refused_535 ?_
  have hsub := OBJ_sub hO (fun z h => hA z (Nat.le_trans hS.1 h))
  refine lc_i (X := (fun A U H => XS A U H ∧ isStr qs535 (wQ.map nI) A U H)) (O := (fun A H => OBJ D cI cJ cC cL A q ax (((((((((((((((B + 100000) + 100000) + 100000) + 100000) + 100000) + 100000) + 100000) + 100000) + 100000) + 100000) + 100000) + 100000) + 100000) + 100000) + 100000) g hy N u0 sb gs (0) tg (q_tellN g) (q_tellC g) nr rn rd H)) (O' := (fun (u : ((Nat → Nat) × (Nat → Nat → Nat) × Nat × Nat × Nat × (Nat → Int32) × (Nat → Int32))) A H => OBJ D cI cJ cC cL A q ax ((((((((((((((((B + 100000) + 100000) + 100000) + 100000) + 100000) + 100000) + 100000) + 100000) + 100000) + 100000) + 100000) + 100000) + 100000) + 100000) + 100000) + 100000) (u.1) (u.2.1) (u.2.2.1) (u.2.2.2.1) sb gs (0) tg (q_tellN g) (q_tellC g) (u.2.2.2.2.1) (u.2.2.2.2.2.1) (u.2.2.2.2.2.2) H)) (F := (OA q ax)) (As := [.ref q, .ref qs535]) (rest := []) hF (c_L_reads l D cI cJ cC cL q ax (((((((((((((((B + 100000) + 100000) + 100000) + 100000) + 100000) + 100000) + 100000) + 100000) + 100000) + 100000) + 100000) + 100000) + 100000) + 100000) + 100000) g hy N u0 sb gs tg (q_tellN g) (q_tellC g) nr rn rd qs535 wQ (by decide) wQ_ok (IN_run_wrong (OBJ_G hO) wQ_RF) _) (va_cwS 2 hts gL_refused_L_reads rfl rfl rfl (by decide +kernel) ⟨Nat.le_of_ble_eq_true rfl, Nat.le_of_ble_eq_true rfl⟩) rfl hl rfl (Nat.le_of_ble_eq_true rfl) dL_refused_537 ⟨Nat.zero_le _, Nat.zero_le _⟩ hK hN ((KX_and KX_XS KX_isStr)) (X_at (KX_and KX_XS KX_isStr) (show XS A s s.heap ∧ isStr qs535 (wQ.map nI) A s s.heap from ⟨hXS, hs535⟩) hS hsub) (OBJ_at hO _) hS (hsub) (fun r v9 H locs hr hO1 hS hz hk => ?_)
  have hO := OBJ_to hO1 hsub
  clear hsub hO1
  obtain ⟨g', hl', N', u', n', rn', rd'⟩ := v9
  obtain ⟨hch, hp⟩ := hr
  dsimp only at hch hp hO
  obtain ⟨rfl, rfl, rfl, rfl⟩ := PSm_s hp
  obtain ⟨rfl, rfl, rfl, rfl⟩ := MS_rs hch (by decide +kernel)
  refine lv_sipush (v := -nI 1000) hx hb dL_refused_540 (by decide) ?_
  refine lv_icmp_ne (tgt := 616) hx hb dL_refused_543 (by decide) (fun hq => absurd (show (-1000 : Int32) - nI 0 = -nI 1000 by decide +kernel) hq) (fun _ => ?_)
  refine lv_aload_n hx hb dL_refused_546 rfl (lv_at hl 5 rfl) ?_
  refine lv_iconst (v := nI 0) hx hb dL_refused_547 (by decide) ?_
  refine lv_iconst (v := nI 0) hx hb dL_refused_548 (by decide) ?_
  refine oc_reason hF (reason_q (OBJ_nr hO) (i := 0) (b := 0) (by omega) (by omega)) (cwV 2 hts gL_refused_X9_reason rfl rfl rfl (by decide +kernel) ⟨Nat.le_of_ble_eq_true rfl, Nat.le_of_ble_eq_true rfl⟩) (Nat.le_of_ble_eq_true rfl) hl (Nat.le_of_ble_eq_true rfl) dL_refused_549 ⟨Nat.zero_le _, Nat.zero_le _⟩ hK hN hXS hA hO hS (fun H locs hO hS hz hk => ?_)
  refine lv_iload hx hb dL_refused_552 (lv_at hl 2 rfl) ?_
  refine lv_icmp_ne (tgt := 616) hx hb dL_refused_554 (by decide) (fun hq => absurd rfl hq) (fun _ => ?_)
  refine lv_aload_n hx hb dL_refused_557 rfl (lv_at hl 5 rfl) ?_
  obtain ⟨qs558, hr558, hs558⟩ := hXS.2 (RL, 173, "tick 1;tick 0", [116, 105, 99, 107, 32, 49, 59, 116, 105, 99, 107, 32, 48]) (by decide +kernel)
  refine va_ldcS hx hb hown hr558 dL_refused_558 ?_
  have hsub := OBJ_sub hO (fun z h => hA z (Nat.le_trans hS.1 h))
  refine lc_i (X := (fun A U H => XS A U H ∧ isStr qs558 (wT.map nI) A U H)) (O := (fun A H => OBJ D cI cJ cC cL A q ax ((((((((((((((((B + 100000) + 100000) + 100000) + 100000) + 100000) + 100000) + 100000) + 100000) + 100000) + 100000) + 100000) + 100000) + 100000) + 100000) + 100000) + 100000) g hy N u0 sb gs (0) tg (q_tellN g) (q_tellC g) nr rn rd H)) (O' := (fun (u : ((Nat → Nat) × (Nat → Nat → Nat) × Nat × Nat × Nat × (Nat → Int32) × (Nat → Int32))) A H => OBJ D cI cJ cC cL A q ax (((((((((((((((((B + 100000) + 100000) + 100000) + 100000) + 100000) + 100000) + 100000) + 100000) + 100000) + 100000) + 100000) + 100000) + 100000) + 100000) + 100000) + 100000) + 100000) (u.1) (u.2.1) (u.2.2.1) (u.2.2.2.1) sb gs (0) tg (q_tellN g) (q_tellC g) (u.2.2.2.2.1) (u.2.2.2.2.2.1) (u.2.2.2.2.2.2) H)) (F := (OA q ax)) (As := [.ref q, .ref qs558]) (rest := []) hF (c_L_reads l D cI cJ cC cL q ax ((((((((((((((((B + 100000) + 100000) + 100000) + 100000) + 100000) + 100000) + 100000) + 100000) + 100000) + 100000) + 100000) + 100000) + 100000) + 100000) + 100000) + 100000) g hy N u0 sb gs tg (q_tellN g) (q_tellC g) nr rn rd qs558 wT (by decide) wT_ok (IN_run_two (OBJ_G hO) wT_1 (by decide) (by decide) rfl wT_2 wT_RF) _) (va_cwS 2 hts gL_refused_L_reads rfl rfl rfl (by decide +kernel) ⟨Nat.le_of_ble_eq_true rfl, Nat.le_of_ble_eq_true rfl⟩) rfl hl rfl (Nat.le_of_ble_eq_true rfl) dL_refused_560 ⟨Nat.zero_le _, Nat.zero_le _⟩ hK hN ((KX_and KX_XS KX_isStr)) (X_at (KX_and KX_XS KX_isStr) (show XS A s s.heap ∧ isStr qs558 (wT.map nI) A s s.heap from ⟨hXS, hs558⟩) hS hsub) (OBJ_at hO _) hS (hsub) (fun r v9 H locs hr hO1 hS hz hk => ?_)
  have hO := OBJ_to hO1 hsub
  clear hsub hO1
  obtain ⟨g', hl', N', u', n', rn', rd'⟩ := v9
  obtain ⟨hch, hp⟩ := hr
  dsimp only at hch hp hO
  obtain ⟨rfl, rfl, e1, e2, e3, e4⟩ := hp
  obtain ⟨rfl, rfl, rfl, rfl⟩ := MS_rs hch (m_lt (by omega) (by omega))
  refine lv_bipush (v := -nI 14) hx hb dL_refused_563 (by decide) ?_
  refine lv_icmp_ne (tgt := 616) hx hb dL_refused_565 (by decide) (fun hq => absurd rfl hq) (fun _ => ?_)
  refine lv_aload_n hx hb dL_refused_568 rfl (lv_at hl 5 rfl) ?_
  refine lv_bipush (v := nI 10) hx hb dL_refused_569 (by decide) ?_
  refine lv_iconst (v := nI 1) hx hb dL_refused_571 (by decide) ?_
  refine lv_bipush (v := nI 13) hx hb dL_refused_572 (by decide) ?_
  refine lv_bipush (v := -nI 12) hx hb dL_refused_574 (by decide) ?_
  have hsub := OBJ_sub hO (fun z h => hA z (Nat.le_trans hS.1 h))
  refine lc_i (X := XS) (O := (fun A H => OBJ D cI cJ cC cL A q ax (((((((((((((((((B + 100000) + 100000) + 100000) + 100000) + 100000) + 100000) + 100000) + 100000) + 100000) + 100000) + 100000) + 100000) + 100000) + 100000) + 100000) + 100000) + 100000) g hy N u0 sb gs (0) tg (q_tellN g) (q_tellC g) (2) (rn') (rd') H)) (O' := (fun _ => (fun A H => OBJ D cI cJ cC cL A q ax (((((((((((((((((B + 100000) + 100000) + 100000) + 100000) + 100000) + 100000) + 100000) + 100000) + 100000) + 100000) + 100000) + 100000) + 100000) + 100000) + 100000) + 100000) + 100000) g hy N u0 sb gs (0) tg (q_tellN g) (q_tellC g) (2) (rn') (rd') H))) (F := (OA q ax)) (As := [.ref q, .int (nI 10), .int (nI 1), .int (nI 13), .int (-nI 12)]) (rest := []) hF (c_L_is_ l D cI cJ cC cL q ax (((((((((((((((((B + 100000) + 100000) + 100000) + 100000) + 100000) + 100000) + 100000) + 100000) + 100000) + 100000) + 100000) + 100000) + 100000) + 100000) + 100000) + 100000) + 100000) g hy N u0 sb gs (0) tg (q_tellN g) (q_tellC g) (rn') (rd') (nI 10) (nI 1) (nI 13) (-nI 12) e1 e2 e3 e4 _) (va_cwS 5 hts gL_refused_L_is_ rfl rfl rfl (by decide +kernel) ⟨Nat.le_of_ble_eq_true rfl, Nat.le_of_ble_eq_true rfl⟩) rfl hl rfl (Nat.le_of_ble_eq_true rfl) dL_refused_576 ⟨Nat.zero_le _, Nat.zero_le _⟩ hK hN (KX_XS) (X_at KX_XS hXS hS hsub) (OBJ_at hO _) hS (hsub) (fun r v9 H locs hr hO1 hS hz hk => ?_)
  have hO := OBJ_to hO1 hsub
  clear hsub hO1
  subst hr
  refine lv_if_eq (tgt := 616) hx hb dL_refused_579 (by decide) (fun hq => absurd hq n10) (fun _ => ?_)
  refine lv_aload_n hx hb dL_refused_582 rfl (lv_at hl 5 rfl) ?_
  refine lv_iconst (v := nI 0) hx hb dL_refused_583 (by decide) ?_
  refine lv_iconst (v := nI 0) hx hb dL_refused_584 (by decide) ?_
  refine lv_iconst (v := nI 0) hx hb dL_refused_585 (by decide) ?_
  refine oc_wire hF (IN_wire_sw (OBJ_G hO) (l := 0) (f := 0) (p := 0) h0g h0g (by omega) hk0) (cwV 3 hts gL_refused_X9_wire rfl rfl rfl (by decide +kernel) ⟨Nat.le_of_ble_eq_true rfl, Nat.le_of_ble_eq_true rfl⟩) (Nat.le_of_ble_eq_true rfl) hl (Nat.le_of_ble_eq_true rfl) dL_refused_586 ⟨Nat.zero_le _, Nat.zero_le _⟩ hK hN hXS hA hO hS (fun g' hl' N' u' n' rn' rd' x H locs hO hS hz hk hch hp => ?_)
  clear e1 e2 e3 e4
  obtain ⟨rfl, rfl, e1, e2⟩ := hp
  obtain ⟨rfl, rfl, rfl, rfl⟩ := MS_rs hch (m_lt (by omega) (by omega))
  refine lv_bipush (v := -nI 14) hx hb dL_refused_589 (by decide) ?_
  refine lv_icmp_ne (tgt := 616) hx hb dL_refused_591 (by decide) (fun hq => absurd rfl hq) (fun _ => ?_)
  refine lv_aload_n hx hb dL_refused_594 rfl (lv_at hl 5 rfl) ?_
  refine lv_iconst (v := nI 2) hx hb dL_refused_595 (by decide) ?_
  refine lv_iconst (v := nI 0) hx hb dL_refused_596 (by decide) ?_
  have hsub := OBJ_sub hO (fun z h => hA z (Nat.le_trans hS.1 h))
  refine lc_i (X := XS) (O := (fun A H => OBJ D cI cJ cC cL A q ax ((((((((((((((((((B + 100000) + 100000) + 100000) + 100000) + 100000) + 100000) + 100000) + 100000) + 100000) + 100000) + 100000) + 100000) + 100000) + 100000) + 100000) + 100000) + 100000) + 100000) g hy N u0 sb gs (0) tg (q_tellN g) (q_tellC g) (1) (rn') (rd') H)) (O' := (fun _ => (fun A H => OBJ D cI cJ cC cL A q ax ((((((((((((((((((B + 100000) + 100000) + 100000) + 100000) + 100000) + 100000) + 100000) + 100000) + 100000) + 100000) + 100000) + 100000) + 100000) + 100000) + 100000) + 100000) + 100000) + 100000) g hy N u0 sb gs (0) tg (q_tellN g) (q_tellC g) (1) (rn') (rd') H))) (F := (OA q ax)) (As := [.ref q, .int (nI 2), .int (nI 0)]) (rest := []) hF (c_L_is l D cI cJ cC cL q ax ((((((((((((((((((B + 100000) + 100000) + 100000) + 100000) + 100000) + 100000) + 100000) + 100000) + 100000) + 100000) + 100000) + 100000) + 100000) + 100000) + 100000) + 100000) + 100000) + 100000) g hy N u0 sb gs (0) tg (q_tellN g) (q_tellC g) (rn') (rd') (nI 2) (nI 0) e1 e2 _) (va_cwS 3 hts gL_refused_L_is rfl rfl rfl (by decide +kernel) ⟨Nat.le_of_ble_eq_true rfl, Nat.le_of_ble_eq_true rfl⟩) rfl hl rfl (Nat.le_of_ble_eq_true rfl) dL_refused_597 ⟨Nat.zero_le _, Nat.zero_le _⟩ hK hN (KX_XS) (X_at KX_XS hXS hS hsub) (OBJ_at hO _) hS (hsub) (fun r v9 H locs hr hO1 hS hz hk => ?_)
  have hO := OBJ_to hO1 hsub
  clear hsub hO1
  subst hr
  refine lv_if_eq (tgt := 616) hx hb dL_refused_600 (by decide) (fun hq => absurd hq n10) (fun _ => ?_)
  refine lv_aload_n hx hb dL_refused_603 rfl (lv_at hl 5 rfl) ?_
  have hB9 : ((((((((((((((((((B + 100000) + 100000) + 100000) + 100000) + 100000) + 100000) + 100000) + 100000) + 100000) + 100000) + 100000) + 100000) + 100000) + 100000) + 100000) + 100000) + 100000) + 100000) < 2 ^ 31 := by omega
  have hsub := OBJ_sub hO (fun z h => hA z (Nat.le_trans hS.1 h))
  refine lc_l (X := XS) (O := (fun A H => OBJ D cI cJ cC cL A q ax ((((((((((((((((((B + 100000) + 100000) + 100000) + 100000) + 100000) + 100000) + 100000) + 100000) + 100000) + 100000) + 100000) + 100000) + 100000) + 100000) + 100000) + 100000) + 100000) + 100000) g hy N u0 sb gs (0) tg (q_tellN g) (q_tellC g) (1) (rn') (rd') H)) (O' := (fun _ => (fun A H => OBJ D cI cJ cC cL A q ax ((((((((((((((((((B + 100000) + 100000) + 100000) + 100000) + 100000) + 100000) + 100000) + 100000) + 100000) + 100000) + 100000) + 100000) + 100000) + 100000) + 100000) + 100000) + 100000) + 100000) g hy N u0 sb gs (0) tg (q_tellN g) (q_tellC g) (1) (rn') (rd') H))) (F := (OA q ax)) (As := [.ref q]) (rest := []) hF (c_L_asks l D cI cJ cC cL q ax ((((((((((((((((((B + 100000) + 100000) + 100000) + 100000) + 100000) + 100000) + 100000) + 100000) + 100000) + 100000) + 100000) + 100000) + 100000) + 100000) + 100000) + 100000) + 100000) + 100000) g hy N u0 sb gs (0) tg (q_tellN g) (q_tellC g) (1) (rn') (rd') hB9 _) (va_cwS 1 hts gL_refused_L_asks rfl rfl rfl (by decide +kernel) ⟨Nat.le_of_ble_eq_true rfl, Nat.le_of_ble_eq_true rfl⟩) rfl hl rfl (Nat.le_of_ble_eq_true rfl) dL_refused_604 ⟨Nat.zero_le _, Nat.zero_le _⟩ hK hN (KX_XS) (X_at KX_XS hXS hS hsub) (OBJ_at hO _) hS (hsub) (fun r v9 H locs hr hO1 hS hz hk => ?_)
  have hO := OBJ_to hO1 hsub
  clear hsub hO1
  subst hr
  refine lv_lload_n hx hb dL_refused_607 rfl (lv_at hl 4 rfl) ?_
  refine W.lcmp hx hb dL_refused_608 ?_
  refine lv_if_ne (tgt := 616) hx hb dL_refused_609 (by decide) (fun hq => absurd ((lgc0 _ _).2 rfl) hq) (fun _ => ?_)
  refine lv_iconst (v := nI 1) hx hb dL_refused_612 (by decide) ?_
  refine lv_goto (tgt := 617) hx hb dL_refused_613 (by decide) ?_
  exact hRet (q_tellN g, q_tellC g, 1, rn', rd') (Or.inr rfl) rfl (OBJ_up hO (by omega)) hS dL_refused_617


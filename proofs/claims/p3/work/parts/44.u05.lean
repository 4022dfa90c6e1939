/-! what methods do (own work, written by wip/gen3/sx3.py) -/
/-! StrikeAwake.parish(I)I  -/
abbrev uq_11 (r0 : Nat) (a1 : Int) (tp : Nat) (rd : Nat) (cu : Nat) (dr : Nat) (B : Nat → Int) (y : Int) (T : wq_T) (H : wq_H) : Option Value → wq_T → wq_H → Prop := fun r T' H' => T = T' ∧ WT T H' ∧ wfr [(12, 9), (27, 7), (27, 8), (27, 9), (27, 10), (27, 11), (27, 12), (27, 13), (27, 14), (27, 15), (27, 16), (27, 17), (27, 18), (35, 6), (35, 7), (35, 8), (35, 9), (35, 10), (35, 11), (35, 12), (35, 13), (35, 14), (35, 15), (35, 16), (35, 17), (3, 1), (3, 2), (3, 3), (3, 4), (1, 6), (1, 7), (1, 8), (1, 9), (1, 10), (1, 11), (1, 12), (4, 0), (4, 1), (4, 2), (4, 3), (4, 4), (4, 5), (4, 6), (38, 999), (39, 999), (36, 999), (31, 999), (40, 999), (41, 999), (34, 999), (37, 999), (29, 999), (30, 999), (33, 999), (32, 999)] T H H' ∧ ∃ z : Int, some (vI z) = r ∧ ((-2147483648) ≤ z ∧ z ≤ 2147483647) ∧ (((z = -1) ∧ (a1 < 0 ∨ H r0 9 < a1) ∧ (H' r0 9 = H r0 9) ∧ (H' r0 10 = 2) ∧ (H' r0 6 = (cu : Int)) ∧ (H' r0 7 = (dr : Int)) ∧ (H' r0 8 = H r0 8)) ∨ ((z = -1) ∧ (0 ≤ a1 ∧ a1 ≤ H r0 9) ∧ (H' r0 9 = 0) ∧ ((xparse B y).1.1 ≠ 0) ∧ (H' r0 10 = 4) ∧ (H' r0 11 = (xparse B y).1.1) ∧ (H' r0 12 = (xparse B y).1.2.1) ∧ (H' r0 6 = (cu : Int)) ∧ (H' r0 7 = (dr : Int)) ∧ (H' r0 8 = H r0 8)) ∨ ((0 ≤ z ∧ z ≤ 6) ∧ (0 ≤ a1 ∧ a1 ≤ H r0 9) ∧ (H' r0 9 = 0) ∧ ((xparse B y).1.1 = 0) ∧ (z = (xparse B y).2 0 3) ∧ (H' r0 10 = 0) ∧ (H' r0 6 = (dr : Int)) ∧ (H' r0 7 = (cu : Int)) ∧ (H' r0 8 = 1)))
set_option maxHeartbeats 4000000 in
theorem u_11 {kt : Nat → Option mc_E} {T : wq_T} {H : wq_H} {r0 : Nat} {a1 : Int} {tp : Nat} {rd : Nat} {cu : Nat} {dr : Nat} {B : Nat → Int} {y : Int} (hW : WT T H) (g0 : T.2.2.2 r0 = some 1) (i1 : (-2147483648) ≤ a1 ∧ a1 ≤ 2147483647) (qtp : H r0 0 = (tp : Int)) (gtp : T.2.2.2 tp = some 2) (qrd : H r0 1 = (rd : Int)) (grd : T.2.2.2 rd = some 3) (qcu : H r0 6 = (cu : Int)) (gcu : T.2.2.2 cu = some 27) (qdr : H r0 7 = (dr : Int)) (gdr : T.2.2.2 dr = some 27) (p0 : a1 = y) (hTP_tp : TP T H tp B) (hDD_dr : DD T H dr ) : wpc kt 8 11 [.ref r0, vI a1] T H (uq_11 r0 a1 tp rd cu dr B y T H) := by
  refine wp_enter e11 (Nat.le_of_ble_eq_true rfl) rfl ?_
  have f0 : wfr [(12, 9), (27, 7), (27, 8), (27, 9), (27, 10), (27, 11), (27, 12), (27, 13), (27, 14), (27, 15), (27, 16), (27, 17), (27, 18), (35, 6), (35, 7), (35, 8), (35, 9), (35, 10), (35, 11), (35, 12), (35, 13), (35, 14), (35, 15), (35, 16), (35, 17), (3, 1), (3, 2), (3, 3), (3, 4), (1, 6), (1, 7), (1, 8), (1, 9), (1, 10), (1, 11), (1, 12), (4, 0), (4, 1), (4, 2), (4, 3), (4, 4), (4, 5), (4, 6), (38, 999), (39, 999), (36, 999), (31, 999), (40, 999), (41, 999), (34, 999), (37, 999), (29, 999), (30, 999), (33, 999), (32, 999)] T H H := wfr.rf
  show wp _ _ 11 0 [(0, .ref r0), (1, vI a1)] [] _ H _
  have b270045 : 0 ≤ H r0 9 ∧ H r0 9 ≤ 900 := hW.box g0 (n := 13) rfl (by decide) rfl
  have b270046 : 0 ≤ H r0 8 ∧ H r0 8 ≤ 1 := hW.box g0 (n := 13) rfl (by decide) rfl
  have _y1 : (xparse B a1).1.1 = (xparse B y).1.1 := by rw [p0]
  have _y2 : (xparse B a1).1.2.1 = (xparse B y).1.2.1 := by rw [p0]
  have _y3 : (xparse B a1).2 0 3 = (xparse B y).2 0 3 := by rw [p0]
  refine wp_of e11 c11_0 (rw_iload_n (pc' := 1) (z := a1) rfl rfl ?_)
  refine wp_of e11 c11_1 (rw_if_lt (p1 := 12) (p2 := 4) (by decide) rfl ⟨by omega, by omega⟩ (fun c270047 => ?_) (fun c270047 => ?_))
  · refine wp_of e11 c11_12 (rw_aload_n (pc' := 13) (v := .ref r0) rfl rfl rfl ?_)
    refine wp_of e11 c11_13 (rw_iconst (pc' := 14) rfl ?_)
    refine wp_of e11 c11_14 (xc_V (pc' := 17) (r := r0) (as := [vI 2]) (st := []) (lm_0_70) rfl rfl (Nat.le_of_ble_eq_true rfl) hW g0 sh_1 (by decide) rfl (by decide) (u_12  hW g0 ⟨by omega, by omega⟩) (fun R270048 T270049 H270050 p270051 => ?_))
    obtain ⟨e270052, w270054, f270055, z270056, e270053, b270057, p270058⟩ := p270051
    subst e270052
    subst e270053
    obtain ⟨a270059, a270060⟩ := p270058
    have f270061 := f0.tr f270055 rfl
    show wp _ _ 11 17 [(0, .ref r0), (1, vI a1)] [vI z270056] _ H270050 _
    have k270062 : H270050 r0 6 = H r0 6 := (f270055 r0 6 _ g0 rfl)
    have q270063 : H270050 r0 6 = (cu : Int) := k270062.trans qcu
    have k270064 : H270050 r0 7 = H r0 7 := (f270055 r0 7 _ g0 rfl)
    have q270065 : H270050 r0 7 = (dr : Int) := k270064.trans qdr
    have k270066 : H270050 r0 8 = H r0 8 := (f270055 r0 8 _ g0 rfl)
    have k270067 : H270050 r0 9 = H r0 9 := (f270055 r0 9 _ g0 rfl)
    exact wp_ireturn e11 c11_17 rfl ⟨rfl, w270054, f270061, z270056, rfl, ⟨by omega, by omega⟩, (Or.inl ⟨by omega, by omega, by omega, by omega, by omega, by omega, by omega⟩)⟩
  · refine wp_of e11 c11_4 (rw_iload_n (pc' := 5) (z := a1) rfl rfl ?_)
    refine wp_of e11 c11_5 (rw_aload_n (pc' := 6) (v := .ref r0) rfl rfl rfl ?_)
    refine wp_of e11 c11_6 (xg_I (pc' := 9) lf_0_62 hW g0 sh_1 (by decide) (by decide) ty_1_9 rfl rfl (fun b270068 b270069 => ?_))
    refine wp_of e11 c11_9 (rw_icmp_le (p1 := 18) (p2 := 12) (by decide) rfl ⟨by omega, by omega⟩ ⟨by omega, by omega⟩ (fun c270070 => ?_) (fun c270070 => ?_))
    · refine wp_of e11 c11_18 (rw_aload_n (pc' := 19) (v := .ref r0) rfl rfl rfl ?_)
      refine wp_of e11 c11_19 (rw_iconst (pc' := 20) rfl ?_)
      refine wp_of e11 c11_20 (xp_I (pc' := 23) lf_0_62 hW g0 sh_1 (by decide) (by decide) ty_1_9 rfl rfl (by omega) (by omega) ⟨by omega, by omega⟩ rfl (fun H270071 e270072 w270073 => ?_))
      have f270074 := f0.put' e270072 g0 rfl
      have k270075 : H270071 r0 9 = 0 := wq_u_s e270072
      refine wp_of e11 c11_23 (rw_aload_n (pc' := 24) (v := .ref r0) rfl rfl rfl ?_)
      have k270076 : H270071 r0 1 = H r0 1 := (wq_u_j e270072 rfl)
      have q270077 : H270071 r0 1 = (rd : Int) := k270076.trans qrd
      refine wp_of e11 c11_24 (xg_K (pc' := 27) lf_0_16 w270073 g0 sh_1 (by decide) (by decide) rfl q270077 rfl ?_)
      refine wp_of e11 c11_27 (rw_aload_n (pc' := 28) (v := .ref r0) rfl rfl rfl ?_)
      have k270078 : H270071 r0 0 = H r0 0 := (wq_u_j e270072 rfl)
      have q270079 : H270071 r0 0 = (tp : Int) := k270078.trans qtp
      refine wp_of e11 c11_28 (xg_K (pc' := 31) lf_0_9 w270073 g0 sh_1 (by decide) (by decide) rfl q270079 rfl ?_)
      refine wp_of e11 c11_31 (rw_iload_n (pc' := 32) (z := a1) rfl rfl ?_)
      refine wp_of e11 c11_32 (rw_aload_n (pc' := 33) (v := .ref r0) rfl rfl rfl ?_)
      have k270080 : H270071 r0 7 = H r0 7 := (wq_u_j e270072 rfl)
      have q270081 : H270071 r0 7 = (dr : Int) := k270080.trans qdr
      refine wp_of e11 c11_33 (xg_K (pc' := 36) lf_0_55 w270073 g0 sh_1 (by decide) (by decide) rfl q270081 rfl ?_)
      obtain ⟨r270082, q270083, g270084⟩ := w270073.ref grd (t' := 4) (n := 5) (j := 0) (p := 0) (q := 0) rfl (by decide) rfl
      have h270085 : TP T H270071 tp B := (TP_fr hW gtp ((wfr.rf (l := [(1, 9)])).put' e270072 g0 rfl) rfl hTP_tp)
      have h270086 : DD T H270071 dr  := (DD_fr hW gdr ((wfr.rf (l := [(1, 9)])).put' e270072 g0 rfl) rfl hDD_dr)
      refine wp_of e11 c11_36 (xc_V (pc' := 39) (r := rd) (as := [.ref tp, vI a1, .ref dr]) (st := []) (lm_0_74) rfl rfl (Nat.le_of_ble_eq_true rfl) w270073 grd sh_3 (by decide) rfl (by decide) (u_13 (B := B) w270073 grd gtp ⟨by omega, by omega⟩ gdr q270083 g270084 h270085 h270086) (fun R270087 T270088 H270089 p270090 => ?_))
      obtain ⟨e270091, w270093, f270094, z270095, e270092, b270096, p270097⟩ := p270090
      subst e270091
      subst e270092
      rcases p270097 with ⟨a270098, a270099, a270100⟩ | ⟨a270101, a270102, a270103, a270104⟩
      · have f270105 := f270074.tr f270094 rfl
        show wp _ _ 11 39 [(0, .ref r0), (1, vI a1)] [vI z270095] _ H270089 _
        have u270106 := DC_k a270100
        refine wp_of e11 c11_39 (rw_istore_n (pc' := 40) (z := z270095) (L' := [(2, vI z270095), (0, .ref r0), (1, vI a1)]) rfl rfl rfl ?_)
        refine wp_of e11 c11_40 (rw_aload_n (pc' := 41) (v := .ref r0) rfl rfl rfl ?_)
        refine wp_of e11 c11_41 (rw_aload_n (pc' := 42) (v := .ref r0) rfl rfl rfl ?_)
        have k270107 : H270089 r0 1 = H270071 r0 1 := (f270094 r0 1 _ g0 rfl)
        have q270108 : H270089 r0 1 = (rd : Int) := k270107.trans q270077
        refine wp_of e11 c11_42 (xg_K (pc' := 45) lf_0_16 w270093 g0 sh_1 (by decide) (by decide) rfl q270108 rfl ?_)
        refine wp_of e11 c11_45 (xg_I (pc' := 48) lf_0_78 w270093 grd sh_3 (by decide) (by decide) ty_3_3 rfl rfl (fun b270109 b270110 => ?_))
        refine wp_of e11 c11_48 (xp_I (pc' := 51) lf_0_81 w270093 g0 sh_1 (by decide) (by decide) ty_1_11 rfl rfl (by omega) (by omega) ⟨by omega, by omega⟩ rfl (fun H270111 e270112 w270113 => ?_))
        have f270114 := f270105.put' e270112 g0 rfl
        have k270115 : H270111 r0 11 = H270089 rd 3 := wq_u_s e270112
        refine wp_of e11 c11_51 (rw_aload_n (pc' := 52) (v := .ref r0) rfl rfl rfl ?_)
        refine wp_of e11 c11_52 (rw_aload_n (pc' := 53) (v := .ref r0) rfl rfl rfl ?_)
        have k270116 : H270111 r0 1 = H270089 r0 1 := (wq_u_j e270112 rfl)
        have q270117 : H270111 r0 1 = (rd : Int) := k270116.trans q270108
        refine wp_of e11 c11_53 (xg_K (pc' := 56) lf_0_16 w270113 g0 sh_1 (by decide) (by decide) rfl q270117 rfl ?_)
        refine wp_of e11 c11_56 (xg_I (pc' := 59) lf_0_84 w270113 grd sh_3 (by decide) (by decide) ty_3_4 rfl rfl (fun b270118 b270119 => ?_))
        refine wp_of e11 c11_59 (xp_I (pc' := 62) lf_0_87 w270113 g0 sh_1 (by decide) (by decide) ty_1_12 rfl rfl (by omega) (by omega) ⟨by omega, by omega⟩ rfl (fun H270120 e270121 w270122 => ?_))
        have f270123 := f270114.put' e270121 g0 rfl
        have k270124 : H270120 r0 12 = H270111 rd 4 := wq_u_s e270121
        refine wp_of e11 c11_62 (rw_iload_n (pc' := 63) (z := z270095) rfl rfl ?_)
        refine wp_of e11 c11_63 (rw_if_ne (p1 := 72) (p2 := 66) (by decide) rfl ⟨by omega, by omega⟩ (fun c270125 => ?_) (fun c270125 => ?_))
        · refine wp_of e11 c11_72 (rw_aload_n (pc' := 73) (v := .ref r0) rfl rfl rfl ?_)
          have k270126 : H270120 r0 7 = H270071 r0 7 := ((wq_u_j e270121 rfl).trans ((wq_u_j e270112 rfl).trans (f270094 r0 7 _ g0 rfl)))
          have q270127 : H270120 r0 7 = (dr : Int) := k270126.trans q270081
          refine wp_of e11 c11_73 (xg_K (pc' := 76) lf_0_55 w270122 g0 sh_1 (by decide) (by decide) rfl q270127 rfl ?_)
          refine wp_of e11 c11_76 (xc_V (pc' := 79) (r := dr) (as := []) (st := []) (lm_0_90) rfl rfl (Nat.le_of_ble_eq_true rfl) w270122 gdr sh_27 (by decide) rfl (by decide) (s_44 w270122 gdr) (fun R270128 T270129 H270130 p270131 => ?_))
          obtain ⟨e270132, w270134, f270135, e270133⟩ := p270131
          subst e270132
          subst e270133
          have f270136 := f270123.tr f270135 rfl
          show wp _ _ 11 79 [(2, vI z270095), (0, .ref r0), (1, vI a1)] [] _ H270130 _
          refine wp_of e11 c11_79 (rw_aload_n (pc' := 80) (v := .ref r0) rfl rfl rfl ?_)
          have k270137 : H270130 r0 6 = H r0 6 := ((f270135 r0 6 _ g0 rfl).trans ((wq_u_j e270121 rfl).trans ((wq_u_j e270112 rfl).trans ((f270094 r0 6 _ g0 rfl).trans (wq_u_j e270072 rfl)))))
          have q270138 : H270130 r0 6 = (cu : Int) := k270137.trans qcu
          refine wp_of e11 c11_80 (xg_K (pc' := 83) lf_0_51 w270134 g0 sh_1 (by decide) (by decide) rfl q270138 rfl ?_)
          refine wp_of e11 c11_83 (rw_astore_n (pc' := 84) (v := .ref cu) (L' := [(3, .ref cu), (2, vI z270095), (0, .ref r0), (1, vI a1)]) rfl rfl rfl rfl ?_)
          refine wp_of e11 c11_84 (rw_aload_n (pc' := 85) (v := .ref r0) rfl rfl rfl ?_)
          refine wp_of e11 c11_85 (rw_aload_n (pc' := 86) (v := .ref r0) rfl rfl rfl ?_)
          have k270139 : H270130 r0 7 = H270120 r0 7 := (f270135 r0 7 _ g0 rfl)
          have q270140 : H270130 r0 7 = (dr : Int) := k270139.trans q270127
          refine wp_of e11 c11_86 (xg_K (pc' := 89) lf_0_55 w270134 g0 sh_1 (by decide) (by decide) rfl q270140 rfl ?_)
          refine wp_of e11 c11_89 (xp_R (pc' := 92) lf_0_51 w270134 g0 sh_1 (by decide) (by decide) rfl rfl (wok_2 ty_1_6 gdr) rfl (fun H270141 e270142 w270143 => ?_))
          have f270144 := f270136.put' e270142 g0 rfl
          have q270145 : H270141 r0 6 = (dr : Int) := wq_u_s e270142
          refine wp_of e11 c11_92 (rw_aload_n (pc' := 93) (v := .ref r0) rfl rfl rfl ?_)
          refine wp_of e11 c11_93 (rw_aload_n (pc' := 94) (v := .ref cu) rfl rfl rfl ?_)
          refine wp_of e11 c11_94 (xp_R (pc' := 97) lf_0_55 w270143 g0 sh_1 (by decide) (by decide) rfl rfl (wok_2 ty_1_7 gcu) rfl (fun H270146 e270147 w270148 => ?_))
          have f270149 := f270144.put' e270147 g0 rfl
          have q270150 : H270146 r0 7 = (cu : Int) := wq_u_s e270147
          refine wp_of e11 c11_97 (rw_aload_n (pc' := 98) (v := .ref r0) rfl rfl rfl ?_)
          refine wp_of e11 c11_98 (rw_iconst (pc' := 99) rfl ?_)
          refine wp_of e11 c11_99 (xp_Z (pc' := 102) lf_0_58 w270148 g0 sh_1 (by decide) (by decide) ty_1_8 rfl rfl (by omega) (by omega) rfl (fun H270151 e270152 w270153 => ?_))
          have f270154 := f270149.put' e270152 g0 rfl
          have k270155 : H270151 r0 8 = 1 := wq_u_s e270152
          refine wp_of e11 c11_102 (rw_aload_n (pc' := 103) (v := .ref r0) rfl rfl rfl ?_)
          refine wp_of e11 c11_103 (xg_R (pc' := 106) lf_0_30 w270153 g0 sh_1 (by decide) (by decide) ty_1_3 rfl rfl (fun r270156 q270157 g270158 => ?_))
          refine wp_of e11 c11_106 (xc_V (pc' := 109) (r := r270156) (as := []) (st := []) (lm_0_93) rfl rfl (Nat.le_of_ble_eq_true rfl) w270153 g270158 sh_12 (by decide) rfl (by decide) (s_50 w270153 g270158) (fun R270159 T270160 H270161 p270162 => ?_))
          obtain ⟨e270163, w270165, f270166, e270164⟩ := p270162
          subst e270163
          subst e270164
          have f270167 := f270154.tr f270166 rfl
          show wp _ _ 11 109 [(3, .ref cu), (2, vI z270095), (0, .ref r0), (1, vI a1)] [] _ H270161 _
          refine wp_of e11 c11_109 (rw_aload_n (pc' := 110) (v := .ref r0) rfl rfl rfl ?_)
          refine wp_of e11 c11_110 (rw_aload_n (pc' := 111) (v := .ref r0) rfl rfl rfl ?_)
          have k270168 : H270161 r0 6 = H270141 r0 6 := ((f270166 r0 6 _ g0 rfl).trans ((wq_u_j e270152 rfl).trans (wq_u_j e270147 rfl)))
          have q270169 : H270161 r0 6 = (dr : Int) := k270168.trans q270145
          refine wp_of e11 c11_111 (xg_K (pc' := 114) lf_0_51 w270165 g0 sh_1 (by decide) (by decide) rfl q270169 rfl ?_)
          have k270170 : H270161 dr 10 = H270089 dr 10 := ((f270166 dr 10 _ gdr rfl).trans ((wq_u_t e270152 g0 gdr rfl 10).trans ((wq_u_t e270147 g0 gdr rfl 10).trans ((wq_u_t e270142 g0 gdr rfl 10).trans ((f270135 dr 10 _ gdr rfl).trans ((wq_u_t e270121 g0 gdr rfl 10).trans (wq_u_t e270112 g0 gdr rfl 10)))))))
          refine wp_of e11 c11_114 (xg_I (pc' := 117) lf_0_96 w270165 gdr sh_27 (by decide) (by decide) ty_27_10 rfl rfl (fun b270171 b270172 => ?_))
          refine wp_of e11 c11_117 (xc_V (pc' := 120) (r := r0) (as := [vI (H270161 dr 10)]) (st := []) (lm_0_99) rfl rfl (Nat.le_of_ble_eq_true rfl) w270165 g0 sh_1 (by decide) rfl (by decide) (u_51  w270165 g0 ⟨by omega, by omega⟩) (fun R270173 T270174 H270175 p270176 => ?_))
          obtain ⟨e270177, w270179, f270180, z270181, e270178, b270182, p270183⟩ := p270176
          subst e270177
          subst e270178
          obtain ⟨a270184, a270185⟩ := p270183
          have f270186 := f270167.tr f270180 rfl
          show wp _ _ 11 120 [(3, .ref cu), (2, vI z270095), (0, .ref r0), (1, vI a1)] [vI z270181] _ H270175 _
          have k270187 : H270175 r0 6 = H270161 r0 6 := (f270180 r0 6 _ g0 rfl)
          have q270188 : H270175 r0 6 = (dr : Int) := k270187.trans q270169
          have k270189 : H270175 r0 7 = H270146 r0 7 := ((f270180 r0 7 _ g0 rfl).trans ((f270166 r0 7 _ g0 rfl).trans (wq_u_j e270152 rfl)))
          have q270190 : H270175 r0 7 = (cu : Int) := k270189.trans q270150
          have k270191 : H270175 r0 8 = H270151 r0 8 := ((f270180 r0 8 _ g0 rfl).trans (f270166 r0 8 _ g0 rfl))
          have k270192 : H270175 r0 9 = H270071 r0 9 := ((f270180 r0 9 _ g0 rfl).trans ((f270166 r0 9 _ g0 rfl).trans ((wq_u_j e270152 rfl).trans ((wq_u_j e270147 rfl).trans ((wq_u_j e270142 rfl).trans ((f270135 r0 9 _ g0 rfl).trans ((wq_u_j e270121 rfl).trans ((wq_u_j e270112 rfl).trans (f270094 r0 9 _ g0 rfl)))))))))
          have k270193 : H270175 r0 11 = H270111 r0 11 := ((f270180 r0 11 _ g0 rfl).trans ((f270166 r0 11 _ g0 rfl).trans ((wq_u_j e270152 rfl).trans ((wq_u_j e270147 rfl).trans ((wq_u_j e270142 rfl).trans ((f270135 r0 11 _ g0 rfl).trans (wq_u_j e270121 rfl)))))))
          have k270194 : H270175 r0 12 = H270120 r0 12 := ((f270180 r0 12 _ g0 rfl).trans ((f270166 r0 12 _ g0 rfl).trans ((wq_u_j e270152 rfl).trans ((wq_u_j e270147 rfl).trans ((wq_u_j e270142 rfl).trans (f270135 r0 12 _ g0 rfl))))))
          exact wp_ireturn e11 c11_120 rfl ⟨rfl, w270179, f270186, z270181, rfl, ⟨by omega, by omega⟩, (Or.inr (Or.inr ⟨by omega, by omega, by omega, by omega, by omega, by omega, by omega, by omega, by omega⟩))⟩
        · exfalso
          omega
      · have f270195 := f270074.tr f270094 rfl
        show wp _ _ 11 39 [(0, .ref r0), (1, vI a1)] [vI z270095] _ H270089 _
        refine wp_of e11 c11_39 (rw_istore_n (pc' := 40) (z := z270095) (L' := [(2, vI z270095), (0, .ref r0), (1, vI a1)]) rfl rfl rfl ?_)
        refine wp_of e11 c11_40 (rw_aload_n (pc' := 41) (v := .ref r0) rfl rfl rfl ?_)
        refine wp_of e11 c11_41 (rw_aload_n (pc' := 42) (v := .ref r0) rfl rfl rfl ?_)
        have k270196 : H270089 r0 1 = H270071 r0 1 := (f270094 r0 1 _ g0 rfl)
        have q270197 : H270089 r0 1 = (rd : Int) := k270196.trans q270077
        refine wp_of e11 c11_42 (xg_K (pc' := 45) lf_0_16 w270093 g0 sh_1 (by decide) (by decide) rfl q270197 rfl ?_)
        refine wp_of e11 c11_45 (xg_I (pc' := 48) lf_0_78 w270093 grd sh_3 (by decide) (by decide) ty_3_3 rfl rfl (fun b270198 b270199 => ?_))
        refine wp_of e11 c11_48 (xp_I (pc' := 51) lf_0_81 w270093 g0 sh_1 (by decide) (by decide) ty_1_11 rfl rfl (by omega) (by omega) ⟨by omega, by omega⟩ rfl (fun H270200 e270201 w270202 => ?_))
        have f270203 := f270195.put' e270201 g0 rfl
        have k270204 : H270200 r0 11 = H270089 rd 3 := wq_u_s e270201
        refine wp_of e11 c11_51 (rw_aload_n (pc' := 52) (v := .ref r0) rfl rfl rfl ?_)
        refine wp_of e11 c11_52 (rw_aload_n (pc' := 53) (v := .ref r0) rfl rfl rfl ?_)
        have k270205 : H270200 r0 1 = H270089 r0 1 := (wq_u_j e270201 rfl)
        have q270206 : H270200 r0 1 = (rd : Int) := k270205.trans q270197
        refine wp_of e11 c11_53 (xg_K (pc' := 56) lf_0_16 w270202 g0 sh_1 (by decide) (by decide) rfl q270206 rfl ?_)
        have k270207 : H270200 rd 4 = H270089 rd 4 := (wq_u_t e270201 g0 grd rfl 4)
        refine wp_of e11 c11_56 (xg_I (pc' := 59) lf_0_84 w270202 grd sh_3 (by decide) (by decide) ty_3_4 rfl rfl (fun b270208 b270209 => ?_))
        refine wp_of e11 c11_59 (xp_I (pc' := 62) lf_0_87 w270202 g0 sh_1 (by decide) (by decide) ty_1_12 rfl rfl (by omega) (by omega) ⟨by omega, by omega⟩ rfl (fun H270210 e270211 w270212 => ?_))
        have f270213 := f270203.put' e270211 g0 rfl
        have k270214 : H270210 r0 12 = H270200 rd 4 := wq_u_s e270211
        refine wp_of e11 c11_62 (rw_iload_n (pc' := 63) (z := z270095) rfl rfl ?_)
        refine wp_of e11 c11_63 (rw_if_ne (p1 := 72) (p2 := 66) (by decide) rfl ⟨by omega, by omega⟩ (fun c270215 => ?_) (fun c270215 => ?_))
        · exfalso
          omega
        · refine wp_of e11 c11_66 (rw_aload_n (pc' := 67) (v := .ref r0) rfl rfl rfl ?_)
          refine wp_of e11 c11_67 (rw_iconst (pc' := 68) rfl ?_)
          refine wp_of e11 c11_68 (xc_V (pc' := 71) (r := r0) (as := [vI 4]) (st := []) (lm_0_70) rfl rfl (Nat.le_of_ble_eq_true rfl) w270212 g0 sh_1 (by decide) rfl (by decide) (u_12  w270212 g0 ⟨by omega, by omega⟩) (fun R270216 T270217 H270218 p270219 => ?_))
          obtain ⟨e270220, w270222, f270223, z270224, e270221, b270225, p270226⟩ := p270219
          subst e270220
          subst e270221
          obtain ⟨a270227, a270228⟩ := p270226
          have f270229 := f270213.tr f270223 rfl
          show wp _ _ 11 71 [(2, vI z270095), (0, .ref r0), (1, vI a1)] [vI z270224] _ H270218 _
          have k270230 : H270218 r0 6 = H r0 6 := ((f270223 r0 6 _ g0 rfl).trans ((wq_u_j e270211 rfl).trans ((wq_u_j e270201 rfl).trans ((f270094 r0 6 _ g0 rfl).trans (wq_u_j e270072 rfl)))))
          have q270231 : H270218 r0 6 = (cu : Int) := k270230.trans qcu
          have k270232 : H270218 r0 7 = H270071 r0 7 := ((f270223 r0 7 _ g0 rfl).trans ((wq_u_j e270211 rfl).trans ((wq_u_j e270201 rfl).trans (f270094 r0 7 _ g0 rfl))))
          have q270233 : H270218 r0 7 = (dr : Int) := k270232.trans q270081
          have k270234 : H270218 r0 8 = H r0 8 := ((f270223 r0 8 _ g0 rfl).trans ((wq_u_j e270211 rfl).trans ((wq_u_j e270201 rfl).trans ((f270094 r0 8 _ g0 rfl).trans (wq_u_j e270072 rfl)))))
          have k270235 : H270218 r0 9 = H270071 r0 9 := ((f270223 r0 9 _ g0 rfl).trans ((wq_u_j e270211 rfl).trans ((wq_u_j e270201 rfl).trans (f270094 r0 9 _ g0 rfl))))
          have k270236 : H270218 r0 11 = H270200 r0 11 := ((f270223 r0 11 _ g0 rfl).trans (wq_u_j e270211 rfl))
          have k270237 : H270218 r0 12 = H270210 r0 12 := (f270223 r0 12 _ g0 rfl)
          exact wp_ireturn e11 c11_71 rfl ⟨rfl, w270222, f270229, z270224, rfl, ⟨by omega, by omega⟩, (Or.inr (Or.inl ⟨by omega, by omega, by omega, by omega, by omega, by omega, by omega, by omega, by omega, by omega⟩))⟩
    · refine wp_of e11 c11_12 (rw_aload_n (pc' := 13) (v := .ref r0) rfl rfl rfl ?_)
      refine wp_of e11 c11_13 (rw_iconst (pc' := 14) rfl ?_)
      refine wp_of e11 c11_14 (xc_V (pc' := 17) (r := r0) (as := [vI 2]) (st := []) (lm_0_70) rfl rfl (Nat.le_of_ble_eq_true rfl) hW g0 sh_1 (by decide) rfl (by decide) (u_12  hW g0 ⟨by omega, by omega⟩) (fun R270238 T270239 H270240 p270241 => ?_))
      obtain ⟨e270242, w270244, f270245, z270246, e270243, b270247, p270248⟩ := p270241
      subst e270242
      subst e270243
      obtain ⟨a270249, a270250⟩ := p270248
      have f270251 := f0.tr f270245 rfl
      show wp _ _ 11 17 [(0, .ref r0), (1, vI a1)] [vI z270246] _ H270240 _
      have k270252 : H270240 r0 6 = H r0 6 := (f270245 r0 6 _ g0 rfl)
      have q270253 : H270240 r0 6 = (cu : Int) := k270252.trans qcu
      have k270254 : H270240 r0 7 = H r0 7 := (f270245 r0 7 _ g0 rfl)
      have q270255 : H270240 r0 7 = (dr : Int) := k270254.trans qdr
      have k270256 : H270240 r0 8 = H r0 8 := (f270245 r0 8 _ g0 rfl)
      have k270257 : H270240 r0 9 = H r0 9 := (f270245 r0 9 _ g0 rfl)
      exact wp_ireturn e11 c11_17 rfl ⟨rfl, w270244, f270251, z270246, rfl, ⟨by omega, by omega⟩, (Or.inl ⟨by omega, by omega, by omega, by omega, by omega, by omega, by omega⟩)⟩

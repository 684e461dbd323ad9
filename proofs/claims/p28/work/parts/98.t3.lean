/-! texts -/
set_option maxHeartbeats 4000000 in
theorem c_texts : CoI yL_texts wq_texts 7 4335 29954 [] 1 := by
  refine q_metO (cc := cL_texts) (maxL := 2) (ret := .boolean) rfl (by decide) rfl (Nat.le_of_ble_eq_true rfl) (fun p l e s m args below meth c D cs C hXL hr => ?_)
  refine q_lconst (v := (0 : Int64)) C dL_texts_0 (by decide) ?_
  refine q_lconst (v := (0 : Int64)) C dL_texts_1 (by decide) ?_
  refine q_callO (n := 2) (av := [.long (0 : Int64), .long (0 : Int64)]) (maxL := 6) (ret := some .int) C hXL tf0 qG_LfaultOf rfl (by decide +kernel) ⟨Nat.le_of_ble_eq_true rfl, Nat.le_of_ble_eq_true rfl⟩ ⟨Nat.le_of_ble_eq_true rfl, Nat.le_of_ble_eq_true rfl⟩ rfl rfl (Nat.le_of_ble_eq_true rfl) dL_texts_2 ?_
  refine q_if_ne_f C 101 dL_texts_5 (by decide) (by decide) ?_
  refine q_ldc2 (v := (3224122 : Int64)) C qK_120 dL_texts_8 ?_
  refine q_lconst (v := (0 : Int64)) C dL_texts_11 (by decide) ?_
  refine q_callO (n := 2) (av := [.long (3224122 : Int64), .long (0 : Int64)]) (maxL := 6) (ret := some .int) C hXL tf1 qG_LfaultOf rfl (by decide +kernel) ⟨Nat.le_of_ble_eq_true rfl, Nat.le_of_ble_eq_true rfl⟩ ⟨Nat.le_of_ble_eq_true rfl, Nat.le_of_ble_eq_true rfl⟩ rfl rfl (Nat.le_of_ble_eq_true rfl) dL_texts_12 ?_
  refine q_iconst (v := (1 : Int32)) C dL_texts_15 (by decide) ?_
  refine q_icmp_ne_f C 101 dL_texts_16 (by decide) (by decide) ?_
  refine q_ldc2 (v := (48 : Int64)) C qK_122 dL_texts_19 ?_
  refine q_lconst (v := (0 : Int64)) C dL_texts_22 (by decide) ?_
  refine q_callO (n := 2) (av := [.long (48 : Int64), .long (0 : Int64)]) (maxL := 6) (ret := some .int) C hXL tf2 qG_LfaultOf rfl (by decide +kernel) ⟨Nat.le_of_ble_eq_true rfl, Nat.le_of_ble_eq_true rfl⟩ ⟨Nat.le_of_ble_eq_true rfl, Nat.le_of_ble_eq_true rfl⟩ rfl rfl (Nat.le_of_ble_eq_true rfl) dL_texts_23 ?_
  refine q_iconst (v := (1 : Int32)) C dL_texts_26 (by decide) ?_
  refine q_icmp_ne_f C 101 dL_texts_27 (by decide) (by decide) ?_
  refine q_ldc2 (v := (12346 : Int64)) C qK_124 dL_texts_30 ?_
  refine q_lconst (v := (0 : Int64)) C dL_texts_33 (by decide) ?_
  refine q_callO (n := 2) (av := [.long (12346 : Int64), .long (0 : Int64)]) (maxL := 6) (ret := some .int) C hXL tf3 qG_LfaultOf rfl (by decide +kernel) ⟨Nat.le_of_ble_eq_true rfl, Nat.le_of_ble_eq_true rfl⟩ ⟨Nat.le_of_ble_eq_true rfl, Nat.le_of_ble_eq_true rfl⟩ rfl rfl (Nat.le_of_ble_eq_true rfl) dL_texts_34 ?_
  refine q_iconst (v := (2 : Int32)) C dL_texts_37 (by decide) ?_
  refine q_icmp_ne_f C 101 dL_texts_38 (by decide) (by decide) ?_
  refine q_ldc2 (v := (53026591879474 : Int64)) C qK_126 dL_texts_41 ?_
  refine q_lconst (v := (0 : Int64)) C dL_texts_44 (by decide) ?_
  refine q_callO (n := 2) (av := [.long (53026591879474 : Int64), .long (0 : Int64)]) (maxL := 6) (ret := some .int) C hXL tf4 qG_LfaultOf rfl (by decide +kernel) ⟨Nat.le_of_ble_eq_true rfl, Nat.le_of_ble_eq_true rfl⟩ ⟨Nat.le_of_ble_eq_true rfl, Nat.le_of_ble_eq_true rfl⟩ rfl rfl (Nat.le_of_ble_eq_true rfl) dL_texts_45 ?_
  refine q_iconst (v := (5 : Int32)) C dL_texts_48 (by decide) ?_
  refine q_icmp_ne_f C 101 dL_texts_49 (by decide) (by decide) ?_
  refine q_ldc2 (v := (808794673 : Int64)) C qK_128 dL_texts_52 ?_
  refine q_lconst (v := (0 : Int64)) C dL_texts_55 (by decide) ?_
  refine q_callO (n := 2) (av := [.long (808794673 : Int64), .long (0 : Int64)]) (maxL := 6) (ret := some .int) C hXL tf5 qG_LfaultOf rfl (by decide +kernel) ⟨Nat.le_of_ble_eq_true rfl, Nat.le_of_ble_eq_true rfl⟩ ⟨Nat.le_of_ble_eq_true rfl, Nat.le_of_ble_eq_true rfl⟩ rfl rfl (Nat.le_of_ble_eq_true rfl) dL_texts_56 ?_
  refine q_iconst (v := (1 : Int32)) C dL_texts_59 (by decide) ?_
  refine q_icmp_ne_f C 101 dL_texts_60 (by decide) (by decide) ?_
  refine q_ldc2 (v := (3475144128359838508 : Int64)) C qK_130 dL_texts_63 ?_
  refine q_ldc2 (v := (224079981622 : Int64)) C qK_132 dL_texts_66 ?_
  refine q_callO (n := 2) (av := [.long (3475144128359838508 : Int64), .long (224079981622 : Int64)]) (maxL := 6) (ret := some .int) C hXL tf6 qG_LfaultOf rfl (by decide +kernel) ⟨Nat.le_of_ble_eq_true rfl, Nat.le_of_ble_eq_true rfl⟩ ⟨Nat.le_of_ble_eq_true rfl, Nat.le_of_ble_eq_true rfl⟩ rfl rfl (Nat.le_of_ble_eq_true rfl) dL_texts_69 ?_
  refine q_iconst (v := (-1 : Int32)) C dL_texts_72 (by decide) ?_
  refine q_icmp_ne_f C 101 dL_texts_73 (by decide) (by decide) ?_
  refine q_ldc2 (v := (3475144128359838508 : Int64)) C qK_130 dL_texts_76 ?_
  refine q_ldc2 (v := (14685305675590711 : Int64)) C qK_134 dL_texts_79 ?_
  refine q_callO (n := 2) (av := [.long (3475144128359838508 : Int64), .long (14685305675590711 : Int64)]) (maxL := 6) (ret := some .int) C hXL tf7 qG_LfaultOf rfl (by decide +kernel) ⟨Nat.le_of_ble_eq_true rfl, Nat.le_of_ble_eq_true rfl⟩ ⟨Nat.le_of_ble_eq_true rfl, Nat.le_of_ble_eq_true rfl⟩ rfl rfl (Nat.le_of_ble_eq_true rfl) dL_texts_82 ?_
  refine q_bipush (v := (13 : Int32)) C dL_texts_85 (by decide) ?_
  refine q_icmp_ne_f C 101 dL_texts_87 (by decide) (by decide) ?_
  refine q_ldc2 (v := (809120059 : Int64)) C qK_136 dL_texts_90 ?_
  refine q_lconst (v := (0 : Int64)) C dL_texts_93 (by decide) ?_
  refine q_callO (n := 2) (av := [.long (809120059 : Int64), .long (0 : Int64)]) (maxL := 6) (ret := some .int) C hXL tf8 qG_LfaultOf rfl (by decide +kernel) ⟨Nat.le_of_ble_eq_true rfl, Nat.le_of_ble_eq_true rfl⟩ ⟨Nat.le_of_ble_eq_true rfl, Nat.le_of_ble_eq_true rfl⟩ rfl rfl (Nat.le_of_ble_eq_true rfl) dL_texts_94 ?_
  refine q_iconst (v := (4 : Int32)) C dL_texts_97 (by decide) ?_
  refine q_icmp_eq_t C 103 dL_texts_98 (by decide) (by decide) ?_
  refine q_ldc2 (v := (120 : Int64)) C qK_138 dL_texts_103 ?_
  refine q_lconst (v := (0 : Int64)) C dL_texts_106 (by decide) ?_
  refine q_callO (n := 2) (av := [.long (120 : Int64), .long (0 : Int64)]) (maxL := 6) (ret := some .int) C hXL tf9 qG_LfaultOf rfl (by decide +kernel) ⟨Nat.le_of_ble_eq_true rfl, Nat.le_of_ble_eq_true rfl⟩ ⟨Nat.le_of_ble_eq_true rfl, Nat.le_of_ble_eq_true rfl⟩ rfl rfl (Nat.le_of_ble_eq_true rfl) dL_texts_107 ?_
  refine q_if_ne_f C 180 dL_texts_110 (by decide) (by decide) ?_
  refine q_ldc2 (v := (207134735163 : Int64)) C qK_140 dL_texts_113 ?_
  refine q_lconst (v := (0 : Int64)) C dL_texts_116 (by decide) ?_
  refine q_callO (n := 2) (av := [.long (207134735163 : Int64), .long (0 : Int64)]) (maxL := 6) (ret := some .int) C hXL tf10 qG_LfaultOf rfl (by decide +kernel) ⟨Nat.le_of_ble_eq_true rfl, Nat.le_of_ble_eq_true rfl⟩ ⟨Nat.le_of_ble_eq_true rfl, Nat.le_of_ble_eq_true rfl⟩ rfl rfl (Nat.le_of_ble_eq_true rfl) dL_texts_117 ?_
  refine q_iconst (v := (4 : Int32)) C dL_texts_120 (by decide) ?_
  refine q_icmp_ne_f C 180 dL_texts_121 (by decide) (by decide) ?_
  refine q_ldc2 (v := (3544678364653302065 : Int64)) C qK_142 dL_texts_124 ?_
  refine q_lconst (v := (0 : Int64)) C dL_texts_127 (by decide) ?_
  refine q_callO (n := 2) (av := [.long (3544678364653302065 : Int64), .long (0 : Int64)]) (maxL := 6) (ret := some .int) C hXL tf11 qG_LfaultOf rfl (by decide +kernel) ⟨Nat.le_of_ble_eq_true rfl, Nat.le_of_ble_eq_true rfl⟩ ⟨Nat.le_of_ble_eq_true rfl, Nat.le_of_ble_eq_true rfl⟩ rfl rfl (Nat.le_of_ble_eq_true rfl) dL_texts_128 ?_
  refine q_iconst (v := (-1 : Int32)) C dL_texts_131 (by decide) ?_
  refine q_icmp_ne_f C 180 dL_texts_132 (by decide) (by decide) ?_
  refine q_ldc2 (v := (809120032 : Int64)) C qK_144 dL_texts_135 ?_
  refine q_lconst (v := (0 : Int64)) C dL_texts_138 (by decide) ?_
  refine q_callO (n := 2) (av := [.long (809120032 : Int64), .long (0 : Int64)]) (maxL := 6) (ret := some .int) C hXL tf12 qG_LfaultOf rfl (by decide +kernel) ⟨Nat.le_of_ble_eq_true rfl, Nat.le_of_ble_eq_true rfl⟩ ⟨Nat.le_of_ble_eq_true rfl, Nat.le_of_ble_eq_true rfl⟩ rfl rfl (Nat.le_of_ble_eq_true rfl) dL_texts_139 ?_
  refine q_iconst (v := (3 : Int32)) C dL_texts_142 (by decide) ?_
  refine q_icmp_ne_f C 180 dL_texts_143 (by decide) (by decide) ?_
  refine q_ldc2 (v := (3619258216908271920 : Int64)) C qK_146 dL_texts_146 ?_
  refine q_lconst (v := (0 : Int64)) C dL_texts_149 (by decide) ?_
  refine q_callO (n := 2) (av := [.long (3619258216908271920 : Int64), .long (0 : Int64)]) (maxL := 6) (ret := some .int) C hXL tf13 qG_LfaultOf rfl (by decide +kernel) ⟨Nat.le_of_ble_eq_true rfl, Nat.le_of_ble_eq_true rfl⟩ ⟨Nat.le_of_ble_eq_true rfl, Nat.le_of_ble_eq_true rfl⟩ rfl rfl (Nat.le_of_ble_eq_true rfl) dL_texts_150 ?_
  refine q_bipush (v := (8 : Int32)) C dL_texts_153 (by decide) ?_
  refine q_icmp_ne_f C 180 dL_texts_155 (by decide) (by decide) ?_
  refine q_ldc2 (v := (809120044 : Int64)) C qK_148 dL_texts_158 ?_
  refine q_lconst (v := (0 : Int64)) C dL_texts_161 (by decide) ?_
  refine q_callO (n := 2) (av := [.long (809120044 : Int64), .long (0 : Int64)]) (maxL := 6) (ret := some .int) C hXL tf14 qG_LfaultOf rfl (by decide +kernel) ⟨Nat.le_of_ble_eq_true rfl, Nat.le_of_ble_eq_true rfl⟩ ⟨Nat.le_of_ble_eq_true rfl, Nat.le_of_ble_eq_true rfl⟩ rfl rfl (Nat.le_of_ble_eq_true rfl) dL_texts_162 ?_
  refine q_iconst (v := (4 : Int32)) C dL_texts_165 (by decide) ?_
  refine q_icmp_ne_f C 180 dL_texts_166 (by decide) (by decide) ?_
  refine q_ldc2 (v := (53026491214898 : Int64)) C qK_150 dL_texts_169 ?_
  refine q_lconst (v := (0 : Int64)) C dL_texts_172 (by decide) ?_
  refine q_callO (n := 2) (av := [.long (53026491214898 : Int64), .long (0 : Int64)]) (maxL := 6) (ret := some .int) C hXL tf15 qG_LfaultOf rfl (by decide +kernel) ⟨Nat.le_of_ble_eq_true rfl, Nat.le_of_ble_eq_true rfl⟩ ⟨Nat.le_of_ble_eq_true rfl, Nat.le_of_ble_eq_true rfl⟩ rfl rfl (Nat.le_of_ble_eq_true rfl) dL_texts_173 ?_
  refine q_iconst (v := (4 : Int32)) C dL_texts_176 (by decide) ?_
  refine q_icmp_eq_t C 182 dL_texts_177 (by decide) (by decide) ?_
  refine q_new C hXL ⟨Nat.le_of_ble_eq_true rfl, Nat.le_of_ble_eq_true rfl⟩ ⟨Nat.le_of_ble_eq_true rfl, Nat.le_of_ble_eq_true rfl⟩ (fun _ h => h) (Nat.le_of_ble_eq_true rfl) dL_texts_182 dL_texts_185 dL_texts_186 (fun ad => ?_)
  refine q_astore_n C dL_texts_189 rfl (by decide) rfl ?_
  refine texts_0 C ?_
  refine texts_1 C ?_
  refine texts_2 C ?_
  refine texts_3 C ?_
  refine texts_4 C ?_
  refine texts_5 C ?_
  refine texts_6 C ?_
  exact texts_7 C hr

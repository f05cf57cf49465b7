/-! the reference made -/
def Mst (a S k : Nat) : Nat := if k = 0 then a else if k < 4 then S + (k - 1) else S + (k - 2)
theorem Mst_inj {a S : Nat} (h : a < S) : AInj (Mst a S) := by
  intro i j hi hj h4 h4' hne
  unfold Mst
  split <;> split <;> (try split) <;> (try split) <;> omega
theorem Mst_A {a S : Nat} {A : Nat → Prop} (hA : ∀ q, S ≤ q → A q) (ha : A a) (k : Nat) : A (Mst a S k) := by
  unfold Mst
  split
  · exact ha
  · split <;> exact hA _ (by omega)

set_option maxHeartbeats 4000000 in
set_option maxRecDepth 100000 in
theorem c_X4_init (l : Launch) (g : wG) (A : Nat → Prop) (H : Heap) (hA : ∀ q, H.size ≤ q → A q) (a : Nat) (hO : Ob g H a 5 [.int (0), .null, .null, .null, .int (0), .null, .null, .null, .null, .null, .null, .null, .null, .null, .null, .null]) (hAa : A a) : ImpV l g A H yX4_init wsX4_init 1 20 14 280 [.ref a] (fun H1 => ∃ M : Nat → Nat, M 0 = a ∧ (∀ k, k < 16 → k ≠ 4 → A (M k)) ∧ AInj M ∧ ModAt g H1 M 0 st0) := by
  refine Imp.of (cc := cX4_init) (maxL := 2) (ret := none) (by decide) rfl (Nat.le_of_ble_eq_true rfl) ?_
  intro p9 e s m args below meth c X hE hEs hnm hr hk hS ls hl
  have hl : lv_has ls 2 [(0, .ref a)] := hl
  have hin_RX4 : ∀ w ∈ u_ws RX4 TX4 16, w ∈ wsX4_init := by decide +kernel
  have hGd := hE.dis
  have hlt := hO.lt
  refine w_aload_n X dX4_init_0 hl 0 rfl rfl ?_
  refine W.objInit X.1 X.2.1 X.2.2.2.1 (X.2.2.2.2 (.methodLink RX4 1 objectInit) (by decide +kernel)) (X.2.2.2.2 (.instanceMethod objectInit) (by decide +kernel)) (X.2.2.2.2 (.code objectInit ⟨#[0xb1]⟩ 1 none) (by decide +kernel)) rfl (hl.1.trans X.2.2.1.symm) rfl dX4_init_1 (Nat.le_of_ble_eq_true rfl) (Nat.le_of_ble_eq_true rfl) ?_
  refine W.eq (g2 := F0 m 4 ls []) rfl ?_
  refine w_aload_n X dX4_init_4 hl 0 rfl rfl ?_
  refine w_iconst X dX4_init_5 ?_
  refine w_newI X hE hS 4 dX4_init_6 (by omega) (by decide) (by decide +kernel) ⟨(Nat.le_of_ble_eq_true rfl), (Nat.le_of_ble_eq_true rfl)⟩ fun H_1 a_5 ea_5 hr_2 hz_3 hq_4 hS => ?_
  have ho_6 := (hO).kept (hq_4 _ (hO).lt)
  refine w_putF (ref := "TaxEqualiserModel") (v := .ref a_5) X hE ho_6 hS hAa hnm 1 dX4_init_8 rfl hin_RX4 tyX4 tyX4_ok nmX4 (by decide) (by decide +kernel) (fun _ h => h) rfl rfl rfl rfl (Nat.le_of_ble_eq_true rfl) fun H_7 lo_8 ho_9 hz_10 hq_11 hS => ?_
  have ho_9 : Ob g H_7 a 5 [.int (0), .ref a_5, .null, .null, .int (0), .null, .null, .null, .null, .null, .null, .null, .null, .null, .null, .null] := ho_9
  have hr_12 := (hr_2).kept (hq_11 _ (by omega))
  refine w_aload_n X dX4_init_11 hl 0 rfl rfl ?_
  refine w_iconst X dX4_init_12 ?_
  refine w_newI X hE hS 4 dX4_init_13 (by omega) (by decide) (by decide +kernel) ⟨(Nat.le_of_ble_eq_true rfl), (Nat.le_of_ble_eq_true rfl)⟩ fun H_13 a_17 ea_17 hr_14 hz_15 hq_16 hS => ?_
  have ho_18 := (ho_9).kept (hq_16 _ (ho_9).lt)
  have hr_19 := (hr_12).kept (hq_16 _ (hr_12).lt)
  refine w_putF (ref := "TaxEqualiserModel") (v := .ref a_17) X hE ho_18 hS hAa hnm 2 dX4_init_15 rfl hin_RX4 tyX4 tyX4_ok nmX4 (by decide) (by decide +kernel) (fun _ h => h) rfl rfl rfl rfl (Nat.le_of_ble_eq_true rfl) fun H_20 lo_21 ho_22 hz_23 hq_24 hS => ?_
  have ho_22 : Ob g H_20 a 5 [.int (0), .ref a_5, .ref a_17, .null, .int (0), .null, .null, .null, .null, .null, .null, .null, .null, .null, .null, .null] := ho_22
  have hr_25 := (hr_19).kept (hq_24 _ (by omega))
  have hr_26 := (hr_14).kept (hq_24 _ (by omega))
  refine w_aload_n X dX4_init_18 hl 0 rfl rfl ?_
  refine w_bipush X dX4_init_19 (by decide) ?_
  refine w_newI X hE hS 12 dX4_init_21 (by omega) (by decide) (by decide +kernel) ⟨(Nat.le_of_ble_eq_true rfl), (Nat.le_of_ble_eq_true rfl)⟩ fun H_27 a_31 ea_31 hr_28 hz_29 hq_30 hS => ?_
  have ho_32 := (ho_22).kept (hq_30 _ (ho_22).lt)
  have hr_33 := (hr_25).kept (hq_30 _ (hr_25).lt)
  have hr_34 := (hr_26).kept (hq_30 _ (hr_26).lt)
  refine w_putF (ref := "TaxEqualiserModel") (v := .ref a_31) X hE ho_32 hS hAa hnm 3 dX4_init_23 rfl hin_RX4 tyX4 tyX4_ok nmX4 (by decide) (by decide +kernel) (fun _ h => h) rfl rfl rfl rfl (Nat.le_of_ble_eq_true rfl) fun H_35 lo_36 ho_37 hz_38 hq_39 hS => ?_
  have ho_37 : Ob g H_35 a 5 [.int (0), .ref a_5, .ref a_17, .ref a_31, .int (0), .null, .null, .null, .null, .null, .null, .null, .null, .null, .null, .null] := ho_37
  have hr_40 := (hr_33).kept (hq_39 _ (by omega))
  have hr_41 := (hr_34).kept (hq_39 _ (by omega))
  have hr_42 := (hr_28).kept (hq_39 _ (by omega))
  refine w_aload_n X dX4_init_26 hl 0 rfl rfl ?_
  refine w_bipush X dX4_init_27 (by decide) ?_
  refine w_newI X hE hS 10 dX4_init_29 (by omega) (by decide) (by decide +kernel) ⟨(Nat.le_of_ble_eq_true rfl), (Nat.le_of_ble_eq_true rfl)⟩ fun H_43 a_47 ea_47 hr_44 hz_45 hq_46 hS => ?_
  have ho_48 := (ho_37).kept (hq_46 _ (ho_37).lt)
  have hr_49 := (hr_40).kept (hq_46 _ (hr_40).lt)
  have hr_50 := (hr_41).kept (hq_46 _ (hr_41).lt)
  have hr_51 := (hr_42).kept (hq_46 _ (hr_42).lt)
  refine w_putF (ref := "TaxEqualiserModel") (v := .ref a_47) X hE ho_48 hS hAa hnm 5 dX4_init_31 rfl hin_RX4 tyX4 tyX4_ok nmX4 (by decide) (by decide +kernel) (fun _ h => h) rfl rfl rfl rfl (Nat.le_of_ble_eq_true rfl) fun H_52 lo_53 ho_54 hz_55 hq_56 hS => ?_
  have ho_54 : Ob g H_52 a 5 [.int (0), .ref a_5, .ref a_17, .ref a_31, .int (0), .ref a_47, .null, .null, .null, .null, .null, .null, .null, .null, .null, .null] := ho_54
  have hr_57 := (hr_49).kept (hq_56 _ (by omega))
  have hr_58 := (hr_50).kept (hq_56 _ (by omega))
  have hr_59 := (hr_51).kept (hq_56 _ (by omega))
  have hr_60 := (hr_44).kept (hq_56 _ (by omega))
  refine w_aload_n X dX4_init_34 hl 0 rfl rfl ?_
  refine w_bipush X dX4_init_35 (by decide) ?_
  refine w_newI X hE hS 10 dX4_init_37 (by omega) (by decide) (by decide +kernel) ⟨(Nat.le_of_ble_eq_true rfl), (Nat.le_of_ble_eq_true rfl)⟩ fun H_61 a_65 ea_65 hr_62 hz_63 hq_64 hS => ?_
  have ho_66 := (ho_54).kept (hq_64 _ (ho_54).lt)
  have hr_67 := (hr_57).kept (hq_64 _ (hr_57).lt)
  have hr_68 := (hr_58).kept (hq_64 _ (hr_58).lt)
  have hr_69 := (hr_59).kept (hq_64 _ (hr_59).lt)
  have hr_70 := (hr_60).kept (hq_64 _ (hr_60).lt)
  refine w_putF (ref := "TaxEqualiserModel") (v := .ref a_65) X hE ho_66 hS hAa hnm 6 dX4_init_39 rfl hin_RX4 tyX4 tyX4_ok nmX4 (by decide) (by decide +kernel) (fun _ h => h) rfl rfl rfl rfl (Nat.le_of_ble_eq_true rfl) fun H_71 lo_72 ho_73 hz_74 hq_75 hS => ?_
  have ho_73 : Ob g H_71 a 5 [.int (0), .ref a_5, .ref a_17, .ref a_31, .int (0), .ref a_47, .ref a_65, .null, .null, .null, .null, .null, .null, .null, .null, .null] := ho_73
  have hr_76 := (hr_67).kept (hq_75 _ (by omega))
  have hr_77 := (hr_68).kept (hq_75 _ (by omega))
  have hr_78 := (hr_69).kept (hq_75 _ (by omega))
  have hr_79 := (hr_70).kept (hq_75 _ (by omega))
  have hr_80 := (hr_62).kept (hq_75 _ (by omega))
  refine w_aload_n X dX4_init_42 hl 0 rfl rfl ?_
  refine w_bipush X dX4_init_43 (by decide) ?_
  refine w_newI X hE hS 10 dX4_init_45 (by omega) (by decide) (by decide +kernel) ⟨(Nat.le_of_ble_eq_true rfl), (Nat.le_of_ble_eq_true rfl)⟩ fun H_81 a_85 ea_85 hr_82 hz_83 hq_84 hS => ?_
  have ho_86 := (ho_73).kept (hq_84 _ (ho_73).lt)
  have hr_87 := (hr_76).kept (hq_84 _ (hr_76).lt)
  have hr_88 := (hr_77).kept (hq_84 _ (hr_77).lt)
  have hr_89 := (hr_78).kept (hq_84 _ (hr_78).lt)
  have hr_90 := (hr_79).kept (hq_84 _ (hr_79).lt)
  have hr_91 := (hr_80).kept (hq_84 _ (hr_80).lt)
  refine w_putF (ref := "TaxEqualiserModel") (v := .ref a_85) X hE ho_86 hS hAa hnm 7 dX4_init_47 rfl hin_RX4 tyX4 tyX4_ok nmX4 (by decide) (by decide +kernel) (fun _ h => h) rfl rfl rfl rfl (Nat.le_of_ble_eq_true rfl) fun H_92 lo_93 ho_94 hz_95 hq_96 hS => ?_
  have ho_94 : Ob g H_92 a 5 [.int (0), .ref a_5, .ref a_17, .ref a_31, .int (0), .ref a_47, .ref a_65, .ref a_85, .null, .null, .null, .null, .null, .null, .null, .null] := ho_94
  have hr_97 := (hr_87).kept (hq_96 _ (by omega))
  have hr_98 := (hr_88).kept (hq_96 _ (by omega))
  have hr_99 := (hr_89).kept (hq_96 _ (by omega))
  have hr_100 := (hr_90).kept (hq_96 _ (by omega))
  have hr_101 := (hr_91).kept (hq_96 _ (by omega))
  have hr_102 := (hr_82).kept (hq_96 _ (by omega))
  refine w_aload_n X dX4_init_50 hl 0 rfl rfl ?_
  refine w_bipush X dX4_init_51 (by decide) ?_
  refine w_newI X hE hS 10 dX4_init_53 (by omega) (by decide) (by decide +kernel) ⟨(Nat.le_of_ble_eq_true rfl), (Nat.le_of_ble_eq_true rfl)⟩ fun H_103 a_107 ea_107 hr_104 hz_105 hq_106 hS => ?_
  have ho_108 := (ho_94).kept (hq_106 _ (ho_94).lt)
  have hr_109 := (hr_97).kept (hq_106 _ (hr_97).lt)
  have hr_110 := (hr_98).kept (hq_106 _ (hr_98).lt)
  have hr_111 := (hr_99).kept (hq_106 _ (hr_99).lt)
  have hr_112 := (hr_100).kept (hq_106 _ (hr_100).lt)
  have hr_113 := (hr_101).kept (hq_106 _ (hr_101).lt)
  have hr_114 := (hr_102).kept (hq_106 _ (hr_102).lt)
  refine w_putF (ref := "TaxEqualiserModel") (v := .ref a_107) X hE ho_108 hS hAa hnm 8 dX4_init_55 rfl hin_RX4 tyX4 tyX4_ok nmX4 (by decide) (by decide +kernel) (fun _ h => h) rfl rfl rfl rfl (Nat.le_of_ble_eq_true rfl) fun H_115 lo_116 ho_117 hz_118 hq_119 hS => ?_
  have ho_117 : Ob g H_115 a 5 [.int (0), .ref a_5, .ref a_17, .ref a_31, .int (0), .ref a_47, .ref a_65, .ref a_85, .ref a_107, .null, .null, .null, .null, .null, .null, .null] := ho_117
  have hr_120 := (hr_109).kept (hq_119 _ (by omega))
  have hr_121 := (hr_110).kept (hq_119 _ (by omega))
  have hr_122 := (hr_111).kept (hq_119 _ (by omega))
  have hr_123 := (hr_112).kept (hq_119 _ (by omega))
  have hr_124 := (hr_113).kept (hq_119 _ (by omega))
  have hr_125 := (hr_114).kept (hq_119 _ (by omega))
  have hr_126 := (hr_104).kept (hq_119 _ (by omega))
  refine w_aload_n X dX4_init_58 hl 0 rfl rfl ?_
  refine w_bipush X dX4_init_59 (by decide) ?_
  refine w_newI X hE hS 10 dX4_init_61 (by omega) (by decide) (by decide +kernel) ⟨(Nat.le_of_ble_eq_true rfl), (Nat.le_of_ble_eq_true rfl)⟩ fun H_127 a_131 ea_131 hr_128 hz_129 hq_130 hS => ?_
  have ho_132 := (ho_117).kept (hq_130 _ (ho_117).lt)
  have hr_133 := (hr_120).kept (hq_130 _ (hr_120).lt)
  have hr_134 := (hr_121).kept (hq_130 _ (hr_121).lt)
  have hr_135 := (hr_122).kept (hq_130 _ (hr_122).lt)
  have hr_136 := (hr_123).kept (hq_130 _ (hr_123).lt)
  have hr_137 := (hr_124).kept (hq_130 _ (hr_124).lt)
  have hr_138 := (hr_125).kept (hq_130 _ (hr_125).lt)
  have hr_139 := (hr_126).kept (hq_130 _ (hr_126).lt)
  refine w_putF (ref := "TaxEqualiserModel") (v := .ref a_131) X hE ho_132 hS hAa hnm 9 dX4_init_63 rfl hin_RX4 tyX4 tyX4_ok nmX4 (by decide) (by decide +kernel) (fun _ h => h) rfl rfl rfl rfl (Nat.le_of_ble_eq_true rfl) fun H_140 lo_141 ho_142 hz_143 hq_144 hS => ?_
  have ho_142 : Ob g H_140 a 5 [.int (0), .ref a_5, .ref a_17, .ref a_31, .int (0), .ref a_47, .ref a_65, .ref a_85, .ref a_107, .ref a_131, .null, .null, .null, .null, .null, .null] := ho_142
  have hr_145 := (hr_133).kept (hq_144 _ (by omega))
  have hr_146 := (hr_134).kept (hq_144 _ (by omega))
  have hr_147 := (hr_135).kept (hq_144 _ (by omega))
  have hr_148 := (hr_136).kept (hq_144 _ (by omega))
  have hr_149 := (hr_137).kept (hq_144 _ (by omega))
  have hr_150 := (hr_138).kept (hq_144 _ (by omega))
  have hr_151 := (hr_139).kept (hq_144 _ (by omega))
  have hr_152 := (hr_128).kept (hq_144 _ (by omega))
  refine w_aload_n X dX4_init_66 hl 0 rfl rfl ?_
  refine w_bipush X dX4_init_67 (by decide) ?_
  refine w_newI X hE hS 10 dX4_init_69 (by omega) (by decide) (by decide +kernel) ⟨(Nat.le_of_ble_eq_true rfl), (Nat.le_of_ble_eq_true rfl)⟩ fun H_153 a_157 ea_157 hr_154 hz_155 hq_156 hS => ?_
  have ho_158 := (ho_142).kept (hq_156 _ (ho_142).lt)
  have hr_159 := (hr_145).kept (hq_156 _ (hr_145).lt)
  have hr_160 := (hr_146).kept (hq_156 _ (hr_146).lt)
  have hr_161 := (hr_147).kept (hq_156 _ (hr_147).lt)
  have hr_162 := (hr_148).kept (hq_156 _ (hr_148).lt)
  have hr_163 := (hr_149).kept (hq_156 _ (hr_149).lt)
  have hr_164 := (hr_150).kept (hq_156 _ (hr_150).lt)
  have hr_165 := (hr_151).kept (hq_156 _ (hr_151).lt)
  have hr_166 := (hr_152).kept (hq_156 _ (hr_152).lt)
  refine w_putF (ref := "TaxEqualiserModel") (v := .ref a_157) X hE ho_158 hS hAa hnm 10 dX4_init_71 rfl hin_RX4 tyX4 tyX4_ok nmX4 (by decide) (by decide +kernel) (fun _ h => h) rfl rfl rfl rfl (Nat.le_of_ble_eq_true rfl) fun H_167 lo_168 ho_169 hz_170 hq_171 hS => ?_
  have ho_169 : Ob g H_167 a 5 [.int (0), .ref a_5, .ref a_17, .ref a_31, .int (0), .ref a_47, .ref a_65, .ref a_85, .ref a_107, .ref a_131, .ref a_157, .null, .null, .null, .null, .null] := ho_169
  have hr_172 := (hr_159).kept (hq_171 _ (by omega))
  have hr_173 := (hr_160).kept (hq_171 _ (by omega))
  have hr_174 := (hr_161).kept (hq_171 _ (by omega))
  have hr_175 := (hr_162).kept (hq_171 _ (by omega))
  have hr_176 := (hr_163).kept (hq_171 _ (by omega))
  have hr_177 := (hr_164).kept (hq_171 _ (by omega))
  have hr_178 := (hr_165).kept (hq_171 _ (by omega))
  have hr_179 := (hr_166).kept (hq_171 _ (by omega))
  have hr_180 := (hr_154).kept (hq_171 _ (by omega))
  refine w_aload_n X dX4_init_74 hl 0 rfl rfl ?_
  refine w_bipush X dX4_init_75 (by decide) ?_
  refine w_newI X hE hS 10 dX4_init_77 (by omega) (by decide) (by decide +kernel) ⟨(Nat.le_of_ble_eq_true rfl), (Nat.le_of_ble_eq_true rfl)⟩ fun H_181 a_185 ea_185 hr_182 hz_183 hq_184 hS => ?_
  have ho_186 := (ho_169).kept (hq_184 _ (ho_169).lt)
  have hr_187 := (hr_172).kept (hq_184 _ (hr_172).lt)
  have hr_188 := (hr_173).kept (hq_184 _ (hr_173).lt)
  have hr_189 := (hr_174).kept (hq_184 _ (hr_174).lt)
  have hr_190 := (hr_175).kept (hq_184 _ (hr_175).lt)
  have hr_191 := (hr_176).kept (hq_184 _ (hr_176).lt)
  have hr_192 := (hr_177).kept (hq_184 _ (hr_177).lt)
  have hr_193 := (hr_178).kept (hq_184 _ (hr_178).lt)
  have hr_194 := (hr_179).kept (hq_184 _ (hr_179).lt)
  have hr_195 := (hr_180).kept (hq_184 _ (hr_180).lt)
  refine w_putF (ref := "TaxEqualiserModel") (v := .ref a_185) X hE ho_186 hS hAa hnm 11 dX4_init_79 rfl hin_RX4 tyX4 tyX4_ok nmX4 (by decide) (by decide +kernel) (fun _ h => h) rfl rfl rfl rfl (Nat.le_of_ble_eq_true rfl) fun H_196 lo_197 ho_198 hz_199 hq_200 hS => ?_
  have ho_198 : Ob g H_196 a 5 [.int (0), .ref a_5, .ref a_17, .ref a_31, .int (0), .ref a_47, .ref a_65, .ref a_85, .ref a_107, .ref a_131, .ref a_157, .ref a_185, .null, .null, .null, .null] := ho_198
  have hr_201 := (hr_187).kept (hq_200 _ (by omega))
  have hr_202 := (hr_188).kept (hq_200 _ (by omega))
  have hr_203 := (hr_189).kept (hq_200 _ (by omega))
  have hr_204 := (hr_190).kept (hq_200 _ (by omega))
  have hr_205 := (hr_191).kept (hq_200 _ (by omega))
  have hr_206 := (hr_192).kept (hq_200 _ (by omega))
  have hr_207 := (hr_193).kept (hq_200 _ (by omega))
  have hr_208 := (hr_194).kept (hq_200 _ (by omega))
  have hr_209 := (hr_195).kept (hq_200 _ (by omega))
  have hr_210 := (hr_182).kept (hq_200 _ (by omega))
  refine w_aload_n X dX4_init_82 hl 0 rfl rfl ?_
  refine w_bipush X dX4_init_83 (by decide) ?_
  refine w_newI X hE hS 10 dX4_init_85 (by omega) (by decide) (by decide +kernel) ⟨(Nat.le_of_ble_eq_true rfl), (Nat.le_of_ble_eq_true rfl)⟩ fun H_211 a_215 ea_215 hr_212 hz_213 hq_214 hS => ?_
  have ho_216 := (ho_198).kept (hq_214 _ (ho_198).lt)
  have hr_217 := (hr_201).kept (hq_214 _ (hr_201).lt)
  have hr_218 := (hr_202).kept (hq_214 _ (hr_202).lt)
  have hr_219 := (hr_203).kept (hq_214 _ (hr_203).lt)
  have hr_220 := (hr_204).kept (hq_214 _ (hr_204).lt)
  have hr_221 := (hr_205).kept (hq_214 _ (hr_205).lt)
  have hr_222 := (hr_206).kept (hq_214 _ (hr_206).lt)
  have hr_223 := (hr_207).kept (hq_214 _ (hr_207).lt)
  have hr_224 := (hr_208).kept (hq_214 _ (hr_208).lt)
  have hr_225 := (hr_209).kept (hq_214 _ (hr_209).lt)
  have hr_226 := (hr_210).kept (hq_214 _ (hr_210).lt)
  refine w_putF (ref := "TaxEqualiserModel") (v := .ref a_215) X hE ho_216 hS hAa hnm 12 dX4_init_87 rfl hin_RX4 tyX4 tyX4_ok nmX4 (by decide) (by decide +kernel) (fun _ h => h) rfl rfl rfl rfl (Nat.le_of_ble_eq_true rfl) fun H_227 lo_228 ho_229 hz_230 hq_231 hS => ?_
  have ho_229 : Ob g H_227 a 5 [.int (0), .ref a_5, .ref a_17, .ref a_31, .int (0), .ref a_47, .ref a_65, .ref a_85, .ref a_107, .ref a_131, .ref a_157, .ref a_185, .ref a_215, .null, .null, .null] := ho_229
  have hr_232 := (hr_217).kept (hq_231 _ (by omega))
  have hr_233 := (hr_218).kept (hq_231 _ (by omega))
  have hr_234 := (hr_219).kept (hq_231 _ (by omega))
  have hr_235 := (hr_220).kept (hq_231 _ (by omega))
  have hr_236 := (hr_221).kept (hq_231 _ (by omega))
  have hr_237 := (hr_222).kept (hq_231 _ (by omega))
  have hr_238 := (hr_223).kept (hq_231 _ (by omega))
  have hr_239 := (hr_224).kept (hq_231 _ (by omega))
  have hr_240 := (hr_225).kept (hq_231 _ (by omega))
  have hr_241 := (hr_226).kept (hq_231 _ (by omega))
  have hr_242 := (hr_212).kept (hq_231 _ (by omega))
  refine w_aload_n X dX4_init_90 hl 0 rfl rfl ?_
  refine w_bipush X dX4_init_91 (by decide) ?_
  refine w_newI X hE hS 60 dX4_init_93 (by omega) (by decide) (by decide +kernel) ⟨(Nat.le_of_ble_eq_true rfl), (Nat.le_of_ble_eq_true rfl)⟩ fun H_243 a_247 ea_247 hr_244 hz_245 hq_246 hS => ?_
  have ho_248 := (ho_229).kept (hq_246 _ (ho_229).lt)
  have hr_249 := (hr_232).kept (hq_246 _ (hr_232).lt)
  have hr_250 := (hr_233).kept (hq_246 _ (hr_233).lt)
  have hr_251 := (hr_234).kept (hq_246 _ (hr_234).lt)
  have hr_252 := (hr_235).kept (hq_246 _ (hr_235).lt)
  have hr_253 := (hr_236).kept (hq_246 _ (hr_236).lt)
  have hr_254 := (hr_237).kept (hq_246 _ (hr_237).lt)
  have hr_255 := (hr_238).kept (hq_246 _ (hr_238).lt)
  have hr_256 := (hr_239).kept (hq_246 _ (hr_239).lt)
  have hr_257 := (hr_240).kept (hq_246 _ (hr_240).lt)
  have hr_258 := (hr_241).kept (hq_246 _ (hr_241).lt)
  have hr_259 := (hr_242).kept (hq_246 _ (hr_242).lt)
  refine w_putF (ref := "TaxEqualiserModel") (v := .ref a_247) X hE ho_248 hS hAa hnm 13 dX4_init_95 rfl hin_RX4 tyX4 tyX4_ok nmX4 (by decide) (by decide +kernel) (fun _ h => h) rfl rfl rfl rfl (Nat.le_of_ble_eq_true rfl) fun H_260 lo_261 ho_262 hz_263 hq_264 hS => ?_
  have ho_262 : Ob g H_260 a 5 [.int (0), .ref a_5, .ref a_17, .ref a_31, .int (0), .ref a_47, .ref a_65, .ref a_85, .ref a_107, .ref a_131, .ref a_157, .ref a_185, .ref a_215, .ref a_247, .null, .null] := ho_262
  have hr_265 := (hr_249).kept (hq_264 _ (by omega))
  have hr_266 := (hr_250).kept (hq_264 _ (by omega))
  have hr_267 := (hr_251).kept (hq_264 _ (by omega))
  have hr_268 := (hr_252).kept (hq_264 _ (by omega))
  have hr_269 := (hr_253).kept (hq_264 _ (by omega))
  have hr_270 := (hr_254).kept (hq_264 _ (by omega))
  have hr_271 := (hr_255).kept (hq_264 _ (by omega))
  have hr_272 := (hr_256).kept (hq_264 _ (by omega))
  have hr_273 := (hr_257).kept (hq_264 _ (by omega))
  have hr_274 := (hr_258).kept (hq_264 _ (by omega))
  have hr_275 := (hr_259).kept (hq_264 _ (by omega))
  have hr_276 := (hr_244).kept (hq_264 _ (by omega))
  refine w_aload_n X dX4_init_98 hl 0 rfl rfl ?_
  refine w_bipush X dX4_init_99 (by decide) ?_
  refine w_newI X hE hS 60 dX4_init_101 (by omega) (by decide) (by decide +kernel) ⟨(Nat.le_of_ble_eq_true rfl), (Nat.le_of_ble_eq_true rfl)⟩ fun H_277 a_281 ea_281 hr_278 hz_279 hq_280 hS => ?_
  have ho_282 := (ho_262).kept (hq_280 _ (ho_262).lt)
  have hr_283 := (hr_265).kept (hq_280 _ (hr_265).lt)
  have hr_284 := (hr_266).kept (hq_280 _ (hr_266).lt)
  have hr_285 := (hr_267).kept (hq_280 _ (hr_267).lt)
  have hr_286 := (hr_268).kept (hq_280 _ (hr_268).lt)
  have hr_287 := (hr_269).kept (hq_280 _ (hr_269).lt)
  have hr_288 := (hr_270).kept (hq_280 _ (hr_270).lt)
  have hr_289 := (hr_271).kept (hq_280 _ (hr_271).lt)
  have hr_290 := (hr_272).kept (hq_280 _ (hr_272).lt)
  have hr_291 := (hr_273).kept (hq_280 _ (hr_273).lt)
  have hr_292 := (hr_274).kept (hq_280 _ (hr_274).lt)
  have hr_293 := (hr_275).kept (hq_280 _ (hr_275).lt)
  have hr_294 := (hr_276).kept (hq_280 _ (hr_276).lt)
  refine w_putF (ref := "TaxEqualiserModel") (v := .ref a_281) X hE ho_282 hS hAa hnm 14 dX4_init_103 rfl hin_RX4 tyX4 tyX4_ok nmX4 (by decide) (by decide +kernel) (fun _ h => h) rfl rfl rfl rfl (Nat.le_of_ble_eq_true rfl) fun H_295 lo_296 ho_297 hz_298 hq_299 hS => ?_
  have ho_297 : Ob g H_295 a 5 [.int (0), .ref a_5, .ref a_17, .ref a_31, .int (0), .ref a_47, .ref a_65, .ref a_85, .ref a_107, .ref a_131, .ref a_157, .ref a_185, .ref a_215, .ref a_247, .ref a_281, .null] := ho_297
  have hr_300 := (hr_283).kept (hq_299 _ (by omega))
  have hr_301 := (hr_284).kept (hq_299 _ (by omega))
  have hr_302 := (hr_285).kept (hq_299 _ (by omega))
  have hr_303 := (hr_286).kept (hq_299 _ (by omega))
  have hr_304 := (hr_287).kept (hq_299 _ (by omega))
  have hr_305 := (hr_288).kept (hq_299 _ (by omega))
  have hr_306 := (hr_289).kept (hq_299 _ (by omega))
  have hr_307 := (hr_290).kept (hq_299 _ (by omega))
  have hr_308 := (hr_291).kept (hq_299 _ (by omega))
  have hr_309 := (hr_292).kept (hq_299 _ (by omega))
  have hr_310 := (hr_293).kept (hq_299 _ (by omega))
  have hr_311 := (hr_294).kept (hq_299 _ (by omega))
  have hr_312 := (hr_278).kept (hq_299 _ (by omega))
  refine w_aload_n X dX4_init_106 hl 0 rfl rfl ?_
  refine w_bipush X dX4_init_107 (by decide) ?_
  refine w_newI X hE hS 60 dX4_init_109 (by omega) (by decide) (by decide +kernel) ⟨(Nat.le_of_ble_eq_true rfl), (Nat.le_of_ble_eq_true rfl)⟩ fun H_313 a_317 ea_317 hr_314 hz_315 hq_316 hS => ?_
  have ho_318 := (ho_297).kept (hq_316 _ (ho_297).lt)
  have hr_319 := (hr_300).kept (hq_316 _ (hr_300).lt)
  have hr_320 := (hr_301).kept (hq_316 _ (hr_301).lt)
  have hr_321 := (hr_302).kept (hq_316 _ (hr_302).lt)
  have hr_322 := (hr_303).kept (hq_316 _ (hr_303).lt)
  have hr_323 := (hr_304).kept (hq_316 _ (hr_304).lt)
  have hr_324 := (hr_305).kept (hq_316 _ (hr_305).lt)
  have hr_325 := (hr_306).kept (hq_316 _ (hr_306).lt)
  have hr_326 := (hr_307).kept (hq_316 _ (hr_307).lt)
  have hr_327 := (hr_308).kept (hq_316 _ (hr_308).lt)
  have hr_328 := (hr_309).kept (hq_316 _ (hr_309).lt)
  have hr_329 := (hr_310).kept (hq_316 _ (hr_310).lt)
  have hr_330 := (hr_311).kept (hq_316 _ (hr_311).lt)
  have hr_331 := (hr_312).kept (hq_316 _ (hr_312).lt)
  refine w_putF (ref := "TaxEqualiserModel") (v := .ref a_317) X hE ho_318 hS hAa hnm 15 dX4_init_111 rfl hin_RX4 tyX4 tyX4_ok nmX4 (by decide) (by decide +kernel) (fun _ h => h) rfl rfl rfl rfl (Nat.le_of_ble_eq_true rfl) fun H_332 lo_333 ho_334 hz_335 hq_336 hS => ?_
  have ho_334 : Ob g H_332 a 5 [.int (0), .ref a_5, .ref a_17, .ref a_31, .int (0), .ref a_47, .ref a_65, .ref a_85, .ref a_107, .ref a_131, .ref a_157, .ref a_185, .ref a_215, .ref a_247, .ref a_281, .ref a_317] := ho_334
  have hr_337 := (hr_319).kept (hq_336 _ (by omega))
  have hr_338 := (hr_320).kept (hq_336 _ (by omega))
  have hr_339 := (hr_321).kept (hq_336 _ (by omega))
  have hr_340 := (hr_322).kept (hq_336 _ (by omega))
  have hr_341 := (hr_323).kept (hq_336 _ (by omega))
  have hr_342 := (hr_324).kept (hq_336 _ (by omega))
  have hr_343 := (hr_325).kept (hq_336 _ (by omega))
  have hr_344 := (hr_326).kept (hq_336 _ (by omega))
  have hr_345 := (hr_327).kept (hq_336 _ (by omega))
  have hr_346 := (hr_328).kept (hq_336 _ (by omega))
  have hr_347 := (hr_329).kept (hq_336 _ (by omega))
  have hr_348 := (hr_330).kept (hq_336 _ (by omega))
  have hr_349 := (hr_331).kept (hq_336 _ (by omega))
  have hr_350 := (hr_314).kept (hq_336 _ (by omega))
  refine w_iconst X dX4_init_114 ?_
  refine w_istore_n X [(1, .int (wI (0))), (0, .ref a)] dX4_init_115 hl rfl (by decide) rfl fun ls hl => ?_
  refine w_iload_n X dX4_init_116 hl 0 rfl rfl ?_
  refine w_iconst X dX4_init_117 ?_
  refine w_icmp_ge X 178 dX4_init_118 (by decide) (by omega) (by omega) (fun c_351 => ?_) (fun c_351 => ?_)
  · skip
    exact absurd c_351 (by omega)
  · skip
    refine w_aload_n X dX4_init_121 hl 1 rfl rfl ?_
    refine w_get X hE ho_334 1 dX4_init_122 rfl hin_RX4 (by decide) (by decide +kernel) rfl rfl ?_
    refine w_iload_n X dX4_init_125 hl 0 rfl rfl ?_
    refine w_sipush X dX4_init_126 (by decide) ?_
    refine w_iast (x := wI (10000)) X hE hr_337 hS (hA _ (by omega)) dX4_init_129 (by omega) (by omega) (by omega) fun H_352 lo_353 hr_354 hz_355 hq_356 hS => ?_
    have ho_357 := (ho_334).kept (hq_356 _ (by omega))
    have hr_358 := (hr_338).kept (hq_356 _ (by omega))
    have hr_359 := (hr_339).kept (hq_356 _ (by omega))
    have hr_360 := (hr_340).kept (hq_356 _ (by omega))
    have hr_361 := (hr_341).kept (hq_356 _ (by omega))
    have hr_362 := (hr_342).kept (hq_356 _ (by omega))
    have hr_363 := (hr_343).kept (hq_356 _ (by omega))
    have hr_364 := (hr_344).kept (hq_356 _ (by omega))
    have hr_365 := (hr_345).kept (hq_356 _ (by omega))
    have hr_366 := (hr_346).kept (hq_356 _ (by omega))
    have hr_367 := (hr_347).kept (hq_356 _ (by omega))
    have hr_368 := (hr_348).kept (hq_356 _ (by omega))
    have hr_369 := (hr_349).kept (hq_356 _ (by omega))
    have hr_370 := (hr_350).kept (hq_356 _ (by omega))
    refine w_aload_n X dX4_init_130 hl 1 rfl rfl ?_
    refine w_get X hE ho_357 2 dX4_init_131 rfl hin_RX4 (by decide) (by decide +kernel) rfl rfl ?_
    refine w_iload_n X dX4_init_134 hl 0 rfl rfl ?_
    refine w_ldc (v := 40000) (z := 40000) X dX4_init_135 (by decide +kernel) (by decide) ?_
    refine w_iast (x := wI (40000)) X hE hr_358 hS (hA _ (by omega)) dX4_init_137 (by omega) (by omega) (by omega) fun H_371 lo_372 hr_373 hz_374 hq_375 hS => ?_
    have ho_376 := (ho_357).kept (hq_375 _ (by omega))
    have hr_377 := (hr_354).kept (hq_375 _ (by omega))
    have hr_378 := (hr_359).kept (hq_375 _ (by omega))
    have hr_379 := (hr_360).kept (hq_375 _ (by omega))
    have hr_380 := (hr_361).kept (hq_375 _ (by omega))
    have hr_381 := (hr_362).kept (hq_375 _ (by omega))
    have hr_382 := (hr_363).kept (hq_375 _ (by omega))
    have hr_383 := (hr_364).kept (hq_375 _ (by omega))
    have hr_384 := (hr_365).kept (hq_375 _ (by omega))
    have hr_385 := (hr_366).kept (hq_375 _ (by omega))
    have hr_386 := (hr_367).kept (hq_375 _ (by omega))
    have hr_387 := (hr_368).kept (hq_375 _ (by omega))
    have hr_388 := (hr_369).kept (hq_375 _ (by omega))
    have hr_389 := (hr_370).kept (hq_375 _ (by omega))
    refine w_aload_n X dX4_init_138 hl 1 rfl rfl ?_
    refine w_get X hE ho_376 3 dX4_init_139 rfl hin_RX4 (by decide) (by decide +kernel) rfl rfl ?_
    refine w_iconst X dX4_init_142 ?_
    refine w_iload_n X dX4_init_143 hl 0 rfl rfl ?_
    refine w_imul X dX4_init_144 fun z_390 ez_390 => ?_
    rw [show z_390 = 0 by omega]
    refine w_bipush X dX4_init_145 (by decide) ?_
    refine w_iast (x := wI (10)) X hE hr_378 hS (hA _ (by omega)) dX4_init_147 (by omega) (by omega) (by omega) fun H_391 lo_392 hr_393 hz_394 hq_395 hS => ?_
    have ho_396 := (ho_376).kept (hq_395 _ (by omega))
    have hr_397 := (hr_377).kept (hq_395 _ (by omega))
    have hr_398 := (hr_373).kept (hq_395 _ (by omega))
    have hr_399 := (hr_379).kept (hq_395 _ (by omega))
    have hr_400 := (hr_380).kept (hq_395 _ (by omega))
    have hr_401 := (hr_381).kept (hq_395 _ (by omega))
    have hr_402 := (hr_382).kept (hq_395 _ (by omega))
    have hr_403 := (hr_383).kept (hq_395 _ (by omega))
    have hr_404 := (hr_384).kept (hq_395 _ (by omega))
    have hr_405 := (hr_385).kept (hq_395 _ (by omega))
    have hr_406 := (hr_386).kept (hq_395 _ (by omega))
    have hr_407 := (hr_387).kept (hq_395 _ (by omega))
    have hr_408 := (hr_388).kept (hq_395 _ (by omega))
    have hr_409 := (hr_389).kept (hq_395 _ (by omega))
    refine w_aload_n X dX4_init_148 hl 1 rfl rfl ?_
    refine w_get X hE ho_396 3 dX4_init_149 rfl hin_RX4 (by decide) (by decide +kernel) rfl rfl ?_
    refine w_iconst X dX4_init_152 ?_
    refine w_iload_n X dX4_init_153 hl 0 rfl rfl ?_
    refine w_imul X dX4_init_154 fun z_410 ez_410 => ?_
    refine w_iconst X dX4_init_155 ?_
    refine w_iadd X dX4_init_156 fun z_411 ez_411 => ?_
    rw [show z_411 = 1 by omega]
    refine w_bipush X dX4_init_157 (by decide) ?_
    refine w_iast (x := wI (20)) X hE hr_393 hS (hA _ (by omega)) dX4_init_159 (by omega) (by omega) (by omega) fun H_412 lo_413 hr_414 hz_415 hq_416 hS => ?_
    have ho_417 := (ho_396).kept (hq_416 _ (by omega))
    have hr_418 := (hr_397).kept (hq_416 _ (by omega))
    have hr_419 := (hr_398).kept (hq_416 _ (by omega))
    have hr_420 := (hr_399).kept (hq_416 _ (by omega))
    have hr_421 := (hr_400).kept (hq_416 _ (by omega))
    have hr_422 := (hr_401).kept (hq_416 _ (by omega))
    have hr_423 := (hr_402).kept (hq_416 _ (by omega))
    have hr_424 := (hr_403).kept (hq_416 _ (by omega))
    have hr_425 := (hr_404).kept (hq_416 _ (by omega))
    have hr_426 := (hr_405).kept (hq_416 _ (by omega))
    have hr_427 := (hr_406).kept (hq_416 _ (by omega))
    have hr_428 := (hr_407).kept (hq_416 _ (by omega))
    have hr_429 := (hr_408).kept (hq_416 _ (by omega))
    have hr_430 := (hr_409).kept (hq_416 _ (by omega))
    refine w_aload_n X dX4_init_160 hl 1 rfl rfl ?_
    refine w_get X hE ho_417 3 dX4_init_161 rfl hin_RX4 (by decide) (by decide +kernel) rfl rfl ?_
    refine w_iconst X dX4_init_164 ?_
    refine w_iload_n X dX4_init_165 hl 0 rfl rfl ?_
    refine w_imul X dX4_init_166 fun z_431 ez_431 => ?_
    refine w_iconst X dX4_init_167 ?_
    refine w_iadd X dX4_init_168 fun z_432 ez_432 => ?_
    rw [show z_432 = 2 by omega]
    refine w_bipush X dX4_init_169 (by decide) ?_
    refine w_iast (x := wI (40)) X hE hr_414 hS (hA _ (by omega)) dX4_init_171 (by omega) (by omega) (by omega) fun H_433 lo_434 hr_435 hz_436 hq_437 hS => ?_
    have ho_438 := (ho_417).kept (hq_437 _ (by omega))
    have hr_439 := (hr_418).kept (hq_437 _ (by omega))
    have hr_440 := (hr_419).kept (hq_437 _ (by omega))
    have hr_441 := (hr_420).kept (hq_437 _ (by omega))
    have hr_442 := (hr_421).kept (hq_437 _ (by omega))
    have hr_443 := (hr_422).kept (hq_437 _ (by omega))
    have hr_444 := (hr_423).kept (hq_437 _ (by omega))
    have hr_445 := (hr_424).kept (hq_437 _ (by omega))
    have hr_446 := (hr_425).kept (hq_437 _ (by omega))
    have hr_447 := (hr_426).kept (hq_437 _ (by omega))
    have hr_448 := (hr_427).kept (hq_437 _ (by omega))
    have hr_449 := (hr_428).kept (hq_437 _ (by omega))
    have hr_450 := (hr_429).kept (hq_437 _ (by omega))
    have hr_451 := (hr_430).kept (hq_437 _ (by omega))
    refine w_iinc X (fun z_452 => [(1, .int (wI (z_452))), (0, .ref a)]) dX4_init_172 hl 0 rfl (by decide) (fun _ => rfl) fun z_452 ez_452 ls hl => ?_
    rw [show z_452 = 1 by omega] at hl
    refine w_goto X 116 dX4_init_175 (by decide) ?_
    refine w_iload_n X dX4_init_116 hl 0 rfl rfl ?_
    refine w_iconst X dX4_init_117 ?_
    refine w_icmp_ge X 178 dX4_init_118 (by decide) (by omega) (by omega) (fun c_453 => ?_) (fun c_453 => ?_)
    · skip
      exact absurd c_453 (by omega)
    · skip
      refine w_aload_n X dX4_init_121 hl 1 rfl rfl ?_
      refine w_get X hE ho_438 1 dX4_init_122 rfl hin_RX4 (by decide) (by decide +kernel) rfl rfl ?_
      refine w_iload_n X dX4_init_125 hl 0 rfl rfl ?_
      refine w_sipush X dX4_init_126 (by decide) ?_
      refine w_iast (x := wI (10000)) X hE hr_439 hS (hA _ (by omega)) dX4_init_129 (by omega) (by omega) (by omega) fun H_454 lo_455 hr_456 hz_457 hq_458 hS => ?_
      have ho_459 := (ho_438).kept (hq_458 _ (by omega))
      have hr_460 := (hr_440).kept (hq_458 _ (by omega))
      have hr_461 := (hr_435).kept (hq_458 _ (by omega))
      have hr_462 := (hr_441).kept (hq_458 _ (by omega))
      have hr_463 := (hr_442).kept (hq_458 _ (by omega))
      have hr_464 := (hr_443).kept (hq_458 _ (by omega))
      have hr_465 := (hr_444).kept (hq_458 _ (by omega))
      have hr_466 := (hr_445).kept (hq_458 _ (by omega))
      have hr_467 := (hr_446).kept (hq_458 _ (by omega))
      have hr_468 := (hr_447).kept (hq_458 _ (by omega))
      have hr_469 := (hr_448).kept (hq_458 _ (by omega))
      have hr_470 := (hr_449).kept (hq_458 _ (by omega))
      have hr_471 := (hr_450).kept (hq_458 _ (by omega))
      have hr_472 := (hr_451).kept (hq_458 _ (by omega))
      refine w_aload_n X dX4_init_130 hl 1 rfl rfl ?_
      refine w_get X hE ho_459 2 dX4_init_131 rfl hin_RX4 (by decide) (by decide +kernel) rfl rfl ?_
      refine w_iload_n X dX4_init_134 hl 0 rfl rfl ?_
      refine w_ldc (v := 40000) (z := 40000) X dX4_init_135 (by decide +kernel) (by decide) ?_
      refine w_iast (x := wI (40000)) X hE hr_460 hS (hA _ (by omega)) dX4_init_137 (by omega) (by omega) (by omega) fun H_473 lo_474 hr_475 hz_476 hq_477 hS => ?_
      have ho_478 := (ho_459).kept (hq_477 _ (by omega))
      have hr_479 := (hr_456).kept (hq_477 _ (by omega))
      have hr_480 := (hr_461).kept (hq_477 _ (by omega))
      have hr_481 := (hr_462).kept (hq_477 _ (by omega))
      have hr_482 := (hr_463).kept (hq_477 _ (by omega))
      have hr_483 := (hr_464).kept (hq_477 _ (by omega))
      have hr_484 := (hr_465).kept (hq_477 _ (by omega))
      have hr_485 := (hr_466).kept (hq_477 _ (by omega))
      have hr_486 := (hr_467).kept (hq_477 _ (by omega))
      have hr_487 := (hr_468).kept (hq_477 _ (by omega))
      have hr_488 := (hr_469).kept (hq_477 _ (by omega))
      have hr_489 := (hr_470).kept (hq_477 _ (by omega))
      have hr_490 := (hr_471).kept (hq_477 _ (by omega))
      have hr_491 := (hr_472).kept (hq_477 _ (by omega))
      refine w_aload_n X dX4_init_138 hl 1 rfl rfl ?_
      refine w_get X hE ho_478 3 dX4_init_139 rfl hin_RX4 (by decide) (by decide +kernel) rfl rfl ?_
      refine w_iconst X dX4_init_142 ?_
      refine w_iload_n X dX4_init_143 hl 0 rfl rfl ?_
      refine w_imul X dX4_init_144 fun z_492 ez_492 => ?_
      rw [show z_492 = 3 by omega]
      refine w_bipush X dX4_init_145 (by decide) ?_
      refine w_iast (x := wI (10)) X hE hr_480 hS (hA _ (by omega)) dX4_init_147 (by omega) (by omega) (by omega) fun H_493 lo_494 hr_495 hz_496 hq_497 hS => ?_
      have ho_498 := (ho_478).kept (hq_497 _ (by omega))
      have hr_499 := (hr_479).kept (hq_497 _ (by omega))
      have hr_500 := (hr_475).kept (hq_497 _ (by omega))
      have hr_501 := (hr_481).kept (hq_497 _ (by omega))
      have hr_502 := (hr_482).kept (hq_497 _ (by omega))
      have hr_503 := (hr_483).kept (hq_497 _ (by omega))
      have hr_504 := (hr_484).kept (hq_497 _ (by omega))
      have hr_505 := (hr_485).kept (hq_497 _ (by omega))
      have hr_506 := (hr_486).kept (hq_497 _ (by omega))
      have hr_507 := (hr_487).kept (hq_497 _ (by omega))
      have hr_508 := (hr_488).kept (hq_497 _ (by omega))
      have hr_509 := (hr_489).kept (hq_497 _ (by omega))
      have hr_510 := (hr_490).kept (hq_497 _ (by omega))
      have hr_511 := (hr_491).kept (hq_497 _ (by omega))
      refine w_aload_n X dX4_init_148 hl 1 rfl rfl ?_
      refine w_get X hE ho_498 3 dX4_init_149 rfl hin_RX4 (by decide) (by decide +kernel) rfl rfl ?_
      refine w_iconst X dX4_init_152 ?_
      refine w_iload_n X dX4_init_153 hl 0 rfl rfl ?_
      refine w_imul X dX4_init_154 fun z_512 ez_512 => ?_
      refine w_iconst X dX4_init_155 ?_
      refine w_iadd X dX4_init_156 fun z_513 ez_513 => ?_
      rw [show z_513 = 4 by omega]
      refine w_bipush X dX4_init_157 (by decide) ?_
      refine w_iast (x := wI (20)) X hE hr_495 hS (hA _ (by omega)) dX4_init_159 (by omega) (by omega) (by omega) fun H_514 lo_515 hr_516 hz_517 hq_518 hS => ?_
      have ho_519 := (ho_498).kept (hq_518 _ (by omega))
      have hr_520 := (hr_499).kept (hq_518 _ (by omega))
      have hr_521 := (hr_500).kept (hq_518 _ (by omega))
      have hr_522 := (hr_501).kept (hq_518 _ (by omega))
      have hr_523 := (hr_502).kept (hq_518 _ (by omega))
      have hr_524 := (hr_503).kept (hq_518 _ (by omega))
      have hr_525 := (hr_504).kept (hq_518 _ (by omega))
      have hr_526 := (hr_505).kept (hq_518 _ (by omega))
      have hr_527 := (hr_506).kept (hq_518 _ (by omega))
      have hr_528 := (hr_507).kept (hq_518 _ (by omega))
      have hr_529 := (hr_508).kept (hq_518 _ (by omega))
      have hr_530 := (hr_509).kept (hq_518 _ (by omega))
      have hr_531 := (hr_510).kept (hq_518 _ (by omega))
      have hr_532 := (hr_511).kept (hq_518 _ (by omega))
      refine w_aload_n X dX4_init_160 hl 1 rfl rfl ?_
      refine w_get X hE ho_519 3 dX4_init_161 rfl hin_RX4 (by decide) (by decide +kernel) rfl rfl ?_
      refine w_iconst X dX4_init_164 ?_
      refine w_iload_n X dX4_init_165 hl 0 rfl rfl ?_
      refine w_imul X dX4_init_166 fun z_533 ez_533 => ?_
      refine w_iconst X dX4_init_167 ?_
      refine w_iadd X dX4_init_168 fun z_534 ez_534 => ?_
      rw [show z_534 = 5 by omega]
      refine w_bipush X dX4_init_169 (by decide) ?_
      refine w_iast (x := wI (40)) X hE hr_516 hS (hA _ (by omega)) dX4_init_171 (by omega) (by omega) (by omega) fun H_535 lo_536 hr_537 hz_538 hq_539 hS => ?_
      have ho_540 := (ho_519).kept (hq_539 _ (by omega))
      have hr_541 := (hr_520).kept (hq_539 _ (by omega))
      have hr_542 := (hr_521).kept (hq_539 _ (by omega))
      have hr_543 := (hr_522).kept (hq_539 _ (by omega))
      have hr_544 := (hr_523).kept (hq_539 _ (by omega))
      have hr_545 := (hr_524).kept (hq_539 _ (by omega))
      have hr_546 := (hr_525).kept (hq_539 _ (by omega))
      have hr_547 := (hr_526).kept (hq_539 _ (by omega))
      have hr_548 := (hr_527).kept (hq_539 _ (by omega))
      have hr_549 := (hr_528).kept (hq_539 _ (by omega))
      have hr_550 := (hr_529).kept (hq_539 _ (by omega))
      have hr_551 := (hr_530).kept (hq_539 _ (by omega))
      have hr_552 := (hr_531).kept (hq_539 _ (by omega))
      have hr_553 := (hr_532).kept (hq_539 _ (by omega))
      refine w_iinc X (fun z_554 => [(1, .int (wI (z_554))), (0, .ref a)]) dX4_init_172 hl 0 rfl (by decide) (fun _ => rfl) fun z_554 ez_554 ls hl => ?_
      rw [show z_554 = 2 by omega] at hl
      refine w_goto X 116 dX4_init_175 (by decide) ?_
      refine w_iload_n X dX4_init_116 hl 0 rfl rfl ?_
      refine w_iconst X dX4_init_117 ?_
      refine w_icmp_ge X 178 dX4_init_118 (by decide) (by omega) (by omega) (fun c_555 => ?_) (fun c_555 => ?_)
      · skip
        exact absurd c_555 (by omega)
      · skip
        refine w_aload_n X dX4_init_121 hl 1 rfl rfl ?_
        refine w_get X hE ho_540 1 dX4_init_122 rfl hin_RX4 (by decide) (by decide +kernel) rfl rfl ?_
        refine w_iload_n X dX4_init_125 hl 0 rfl rfl ?_
        refine w_sipush X dX4_init_126 (by decide) ?_
        refine w_iast (x := wI (10000)) X hE hr_541 hS (hA _ (by omega)) dX4_init_129 (by omega) (by omega) (by omega) fun H_556 lo_557 hr_558 hz_559 hq_560 hS => ?_
        have ho_561 := (ho_540).kept (hq_560 _ (by omega))
        have hr_562 := (hr_542).kept (hq_560 _ (by omega))
        have hr_563 := (hr_537).kept (hq_560 _ (by omega))
        have hr_564 := (hr_543).kept (hq_560 _ (by omega))
        have hr_565 := (hr_544).kept (hq_560 _ (by omega))
        have hr_566 := (hr_545).kept (hq_560 _ (by omega))
        have hr_567 := (hr_546).kept (hq_560 _ (by omega))
        have hr_568 := (hr_547).kept (hq_560 _ (by omega))
        have hr_569 := (hr_548).kept (hq_560 _ (by omega))
        have hr_570 := (hr_549).kept (hq_560 _ (by omega))
        have hr_571 := (hr_550).kept (hq_560 _ (by omega))
        have hr_572 := (hr_551).kept (hq_560 _ (by omega))
        have hr_573 := (hr_552).kept (hq_560 _ (by omega))
        have hr_574 := (hr_553).kept (hq_560 _ (by omega))
        refine w_aload_n X dX4_init_130 hl 1 rfl rfl ?_
        refine w_get X hE ho_561 2 dX4_init_131 rfl hin_RX4 (by decide) (by decide +kernel) rfl rfl ?_
        refine w_iload_n X dX4_init_134 hl 0 rfl rfl ?_
        refine w_ldc (v := 40000) (z := 40000) X dX4_init_135 (by decide +kernel) (by decide) ?_
        refine w_iast (x := wI (40000)) X hE hr_562 hS (hA _ (by omega)) dX4_init_137 (by omega) (by omega) (by omega) fun H_575 lo_576 hr_577 hz_578 hq_579 hS => ?_
        have ho_580 := (ho_561).kept (hq_579 _ (by omega))
        have hr_581 := (hr_558).kept (hq_579 _ (by omega))
        have hr_582 := (hr_563).kept (hq_579 _ (by omega))
        have hr_583 := (hr_564).kept (hq_579 _ (by omega))
        have hr_584 := (hr_565).kept (hq_579 _ (by omega))
        have hr_585 := (hr_566).kept (hq_579 _ (by omega))
        have hr_586 := (hr_567).kept (hq_579 _ (by omega))
        have hr_587 := (hr_568).kept (hq_579 _ (by omega))
        have hr_588 := (hr_569).kept (hq_579 _ (by omega))
        have hr_589 := (hr_570).kept (hq_579 _ (by omega))
        have hr_590 := (hr_571).kept (hq_579 _ (by omega))
        have hr_591 := (hr_572).kept (hq_579 _ (by omega))
        have hr_592 := (hr_573).kept (hq_579 _ (by omega))
        have hr_593 := (hr_574).kept (hq_579 _ (by omega))
        refine w_aload_n X dX4_init_138 hl 1 rfl rfl ?_
        refine w_get X hE ho_580 3 dX4_init_139 rfl hin_RX4 (by decide) (by decide +kernel) rfl rfl ?_
        refine w_iconst X dX4_init_142 ?_
        refine w_iload_n X dX4_init_143 hl 0 rfl rfl ?_
        refine w_imul X dX4_init_144 fun z_594 ez_594 => ?_
        rw [show z_594 = 6 by omega]
        refine w_bipush X dX4_init_145 (by decide) ?_
        refine w_iast (x := wI (10)) X hE hr_582 hS (hA _ (by omega)) dX4_init_147 (by omega) (by omega) (by omega) fun H_595 lo_596 hr_597 hz_598 hq_599 hS => ?_
        have ho_600 := (ho_580).kept (hq_599 _ (by omega))
        have hr_601 := (hr_581).kept (hq_599 _ (by omega))
        have hr_602 := (hr_577).kept (hq_599 _ (by omega))
        have hr_603 := (hr_583).kept (hq_599 _ (by omega))
        have hr_604 := (hr_584).kept (hq_599 _ (by omega))
        have hr_605 := (hr_585).kept (hq_599 _ (by omega))
        have hr_606 := (hr_586).kept (hq_599 _ (by omega))
        have hr_607 := (hr_587).kept (hq_599 _ (by omega))
        have hr_608 := (hr_588).kept (hq_599 _ (by omega))
        have hr_609 := (hr_589).kept (hq_599 _ (by omega))
        have hr_610 := (hr_590).kept (hq_599 _ (by omega))
        have hr_611 := (hr_591).kept (hq_599 _ (by omega))
        have hr_612 := (hr_592).kept (hq_599 _ (by omega))
        have hr_613 := (hr_593).kept (hq_599 _ (by omega))
        refine w_aload_n X dX4_init_148 hl 1 rfl rfl ?_
        refine w_get X hE ho_600 3 dX4_init_149 rfl hin_RX4 (by decide) (by decide +kernel) rfl rfl ?_
        refine w_iconst X dX4_init_152 ?_
        refine w_iload_n X dX4_init_153 hl 0 rfl rfl ?_
        refine w_imul X dX4_init_154 fun z_614 ez_614 => ?_
        refine w_iconst X dX4_init_155 ?_
        refine w_iadd X dX4_init_156 fun z_615 ez_615 => ?_
        rw [show z_615 = 7 by omega]
        refine w_bipush X dX4_init_157 (by decide) ?_
        refine w_iast (x := wI (20)) X hE hr_597 hS (hA _ (by omega)) dX4_init_159 (by omega) (by omega) (by omega) fun H_616 lo_617 hr_618 hz_619 hq_620 hS => ?_
        have ho_621 := (ho_600).kept (hq_620 _ (by omega))
        have hr_622 := (hr_601).kept (hq_620 _ (by omega))
        have hr_623 := (hr_602).kept (hq_620 _ (by omega))
        have hr_624 := (hr_603).kept (hq_620 _ (by omega))
        have hr_625 := (hr_604).kept (hq_620 _ (by omega))
        have hr_626 := (hr_605).kept (hq_620 _ (by omega))
        have hr_627 := (hr_606).kept (hq_620 _ (by omega))
        have hr_628 := (hr_607).kept (hq_620 _ (by omega))
        have hr_629 := (hr_608).kept (hq_620 _ (by omega))
        have hr_630 := (hr_609).kept (hq_620 _ (by omega))
        have hr_631 := (hr_610).kept (hq_620 _ (by omega))
        have hr_632 := (hr_611).kept (hq_620 _ (by omega))
        have hr_633 := (hr_612).kept (hq_620 _ (by omega))
        have hr_634 := (hr_613).kept (hq_620 _ (by omega))
        refine w_aload_n X dX4_init_160 hl 1 rfl rfl ?_
        refine w_get X hE ho_621 3 dX4_init_161 rfl hin_RX4 (by decide) (by decide +kernel) rfl rfl ?_
        refine w_iconst X dX4_init_164 ?_
        refine w_iload_n X dX4_init_165 hl 0 rfl rfl ?_
        refine w_imul X dX4_init_166 fun z_635 ez_635 => ?_
        refine w_iconst X dX4_init_167 ?_
        refine w_iadd X dX4_init_168 fun z_636 ez_636 => ?_
        rw [show z_636 = 8 by omega]
        refine w_bipush X dX4_init_169 (by decide) ?_
        refine w_iast (x := wI (40)) X hE hr_618 hS (hA _ (by omega)) dX4_init_171 (by omega) (by omega) (by omega) fun H_637 lo_638 hr_639 hz_640 hq_641 hS => ?_
        have ho_642 := (ho_621).kept (hq_641 _ (by omega))
        have hr_643 := (hr_622).kept (hq_641 _ (by omega))
        have hr_644 := (hr_623).kept (hq_641 _ (by omega))
        have hr_645 := (hr_624).kept (hq_641 _ (by omega))
        have hr_646 := (hr_625).kept (hq_641 _ (by omega))
        have hr_647 := (hr_626).kept (hq_641 _ (by omega))
        have hr_648 := (hr_627).kept (hq_641 _ (by omega))
        have hr_649 := (hr_628).kept (hq_641 _ (by omega))
        have hr_650 := (hr_629).kept (hq_641 _ (by omega))
        have hr_651 := (hr_630).kept (hq_641 _ (by omega))
        have hr_652 := (hr_631).kept (hq_641 _ (by omega))
        have hr_653 := (hr_632).kept (hq_641 _ (by omega))
        have hr_654 := (hr_633).kept (hq_641 _ (by omega))
        have hr_655 := (hr_634).kept (hq_641 _ (by omega))
        refine w_iinc X (fun z_656 => [(1, .int (wI (z_656))), (0, .ref a)]) dX4_init_172 hl 0 rfl (by decide) (fun _ => rfl) fun z_656 ez_656 ls hl => ?_
        rw [show z_656 = 3 by omega] at hl
        refine w_goto X 116 dX4_init_175 (by decide) ?_
        refine w_iload_n X dX4_init_116 hl 0 rfl rfl ?_
        refine w_iconst X dX4_init_117 ?_
        refine w_icmp_ge X 178 dX4_init_118 (by decide) (by omega) (by omega) (fun c_657 => ?_) (fun c_657 => ?_)
        · skip
          exact absurd c_657 (by omega)
        · skip
          refine w_aload_n X dX4_init_121 hl 1 rfl rfl ?_
          refine w_get X hE ho_642 1 dX4_init_122 rfl hin_RX4 (by decide) (by decide +kernel) rfl rfl ?_
          refine w_iload_n X dX4_init_125 hl 0 rfl rfl ?_
          refine w_sipush X dX4_init_126 (by decide) ?_
          refine w_iast (x := wI (10000)) X hE hr_643 hS (hA _ (by omega)) dX4_init_129 (by omega) (by omega) (by omega) fun H_658 lo_659 hr_660 hz_661 hq_662 hS => ?_
          have ho_663 := (ho_642).kept (hq_662 _ (by omega))
          have hr_664 := (hr_644).kept (hq_662 _ (by omega))
          have hr_665 := (hr_639).kept (hq_662 _ (by omega))
          have hr_666 := (hr_645).kept (hq_662 _ (by omega))
          have hr_667 := (hr_646).kept (hq_662 _ (by omega))
          have hr_668 := (hr_647).kept (hq_662 _ (by omega))
          have hr_669 := (hr_648).kept (hq_662 _ (by omega))
          have hr_670 := (hr_649).kept (hq_662 _ (by omega))
          have hr_671 := (hr_650).kept (hq_662 _ (by omega))
          have hr_672 := (hr_651).kept (hq_662 _ (by omega))
          have hr_673 := (hr_652).kept (hq_662 _ (by omega))
          have hr_674 := (hr_653).kept (hq_662 _ (by omega))
          have hr_675 := (hr_654).kept (hq_662 _ (by omega))
          have hr_676 := (hr_655).kept (hq_662 _ (by omega))
          refine w_aload_n X dX4_init_130 hl 1 rfl rfl ?_
          refine w_get X hE ho_663 2 dX4_init_131 rfl hin_RX4 (by decide) (by decide +kernel) rfl rfl ?_
          refine w_iload_n X dX4_init_134 hl 0 rfl rfl ?_
          refine w_ldc (v := 40000) (z := 40000) X dX4_init_135 (by decide +kernel) (by decide) ?_
          refine w_iast (x := wI (40000)) X hE hr_664 hS (hA _ (by omega)) dX4_init_137 (by omega) (by omega) (by omega) fun H_677 lo_678 hr_679 hz_680 hq_681 hS => ?_
          have ho_682 := (ho_663).kept (hq_681 _ (by omega))
          have hr_683 := (hr_660).kept (hq_681 _ (by omega))
          have hr_684 := (hr_665).kept (hq_681 _ (by omega))
          have hr_685 := (hr_666).kept (hq_681 _ (by omega))
          have hr_686 := (hr_667).kept (hq_681 _ (by omega))
          have hr_687 := (hr_668).kept (hq_681 _ (by omega))
          have hr_688 := (hr_669).kept (hq_681 _ (by omega))
          have hr_689 := (hr_670).kept (hq_681 _ (by omega))
          have hr_690 := (hr_671).kept (hq_681 _ (by omega))
          have hr_691 := (hr_672).kept (hq_681 _ (by omega))
          have hr_692 := (hr_673).kept (hq_681 _ (by omega))
          have hr_693 := (hr_674).kept (hq_681 _ (by omega))
          have hr_694 := (hr_675).kept (hq_681 _ (by omega))
          have hr_695 := (hr_676).kept (hq_681 _ (by omega))
          refine w_aload_n X dX4_init_138 hl 1 rfl rfl ?_
          refine w_get X hE ho_682 3 dX4_init_139 rfl hin_RX4 (by decide) (by decide +kernel) rfl rfl ?_
          refine w_iconst X dX4_init_142 ?_
          refine w_iload_n X dX4_init_143 hl 0 rfl rfl ?_
          refine w_imul X dX4_init_144 fun z_696 ez_696 => ?_
          rw [show z_696 = 9 by omega]
          refine w_bipush X dX4_init_145 (by decide) ?_
          refine w_iast (x := wI (10)) X hE hr_684 hS (hA _ (by omega)) dX4_init_147 (by omega) (by omega) (by omega) fun H_697 lo_698 hr_699 hz_700 hq_701 hS => ?_
          have ho_702 := (ho_682).kept (hq_701 _ (by omega))
          have hr_703 := (hr_683).kept (hq_701 _ (by omega))
          have hr_704 := (hr_679).kept (hq_701 _ (by omega))
          have hr_705 := (hr_685).kept (hq_701 _ (by omega))
          have hr_706 := (hr_686).kept (hq_701 _ (by omega))
          have hr_707 := (hr_687).kept (hq_701 _ (by omega))
          have hr_708 := (hr_688).kept (hq_701 _ (by omega))
          have hr_709 := (hr_689).kept (hq_701 _ (by omega))
          have hr_710 := (hr_690).kept (hq_701 _ (by omega))
          have hr_711 := (hr_691).kept (hq_701 _ (by omega))
          have hr_712 := (hr_692).kept (hq_701 _ (by omega))
          have hr_713 := (hr_693).kept (hq_701 _ (by omega))
          have hr_714 := (hr_694).kept (hq_701 _ (by omega))
          have hr_715 := (hr_695).kept (hq_701 _ (by omega))
          refine w_aload_n X dX4_init_148 hl 1 rfl rfl ?_
          refine w_get X hE ho_702 3 dX4_init_149 rfl hin_RX4 (by decide) (by decide +kernel) rfl rfl ?_
          refine w_iconst X dX4_init_152 ?_
          refine w_iload_n X dX4_init_153 hl 0 rfl rfl ?_
          refine w_imul X dX4_init_154 fun z_716 ez_716 => ?_
          refine w_iconst X dX4_init_155 ?_
          refine w_iadd X dX4_init_156 fun z_717 ez_717 => ?_
          rw [show z_717 = 10 by omega]
          refine w_bipush X dX4_init_157 (by decide) ?_
          refine w_iast (x := wI (20)) X hE hr_699 hS (hA _ (by omega)) dX4_init_159 (by omega) (by omega) (by omega) fun H_718 lo_719 hr_720 hz_721 hq_722 hS => ?_
          have ho_723 := (ho_702).kept (hq_722 _ (by omega))
          have hr_724 := (hr_703).kept (hq_722 _ (by omega))
          have hr_725 := (hr_704).kept (hq_722 _ (by omega))
          have hr_726 := (hr_705).kept (hq_722 _ (by omega))
          have hr_727 := (hr_706).kept (hq_722 _ (by omega))
          have hr_728 := (hr_707).kept (hq_722 _ (by omega))
          have hr_729 := (hr_708).kept (hq_722 _ (by omega))
          have hr_730 := (hr_709).kept (hq_722 _ (by omega))
          have hr_731 := (hr_710).kept (hq_722 _ (by omega))
          have hr_732 := (hr_711).kept (hq_722 _ (by omega))
          have hr_733 := (hr_712).kept (hq_722 _ (by omega))
          have hr_734 := (hr_713).kept (hq_722 _ (by omega))
          have hr_735 := (hr_714).kept (hq_722 _ (by omega))
          have hr_736 := (hr_715).kept (hq_722 _ (by omega))
          refine w_aload_n X dX4_init_160 hl 1 rfl rfl ?_
          refine w_get X hE ho_723 3 dX4_init_161 rfl hin_RX4 (by decide) (by decide +kernel) rfl rfl ?_
          refine w_iconst X dX4_init_164 ?_
          refine w_iload_n X dX4_init_165 hl 0 rfl rfl ?_
          refine w_imul X dX4_init_166 fun z_737 ez_737 => ?_
          refine w_iconst X dX4_init_167 ?_
          refine w_iadd X dX4_init_168 fun z_738 ez_738 => ?_
          rw [show z_738 = 11 by omega]
          refine w_bipush X dX4_init_169 (by decide) ?_
          refine w_iast (x := wI (40)) X hE hr_720 hS (hA _ (by omega)) dX4_init_171 (by omega) (by omega) (by omega) fun H_739 lo_740 hr_741 hz_742 hq_743 hS => ?_
          have ho_744 := (ho_723).kept (hq_743 _ (by omega))
          have hr_745 := (hr_724).kept (hq_743 _ (by omega))
          have hr_746 := (hr_725).kept (hq_743 _ (by omega))
          have hr_747 := (hr_726).kept (hq_743 _ (by omega))
          have hr_748 := (hr_727).kept (hq_743 _ (by omega))
          have hr_749 := (hr_728).kept (hq_743 _ (by omega))
          have hr_750 := (hr_729).kept (hq_743 _ (by omega))
          have hr_751 := (hr_730).kept (hq_743 _ (by omega))
          have hr_752 := (hr_731).kept (hq_743 _ (by omega))
          have hr_753 := (hr_732).kept (hq_743 _ (by omega))
          have hr_754 := (hr_733).kept (hq_743 _ (by omega))
          have hr_755 := (hr_734).kept (hq_743 _ (by omega))
          have hr_756 := (hr_735).kept (hq_743 _ (by omega))
          have hr_757 := (hr_736).kept (hq_743 _ (by omega))
          refine w_iinc X (fun z_758 => [(1, .int (wI (z_758))), (0, .ref a)]) dX4_init_172 hl 0 rfl (by decide) (fun _ => rfl) fun z_758 ez_758 ls hl => ?_
          rw [show z_758 = 4 by omega] at hl
          refine w_goto X 116 dX4_init_175 (by decide) ?_
          refine w_iload_n X dX4_init_116 hl 0 rfl rfl ?_
          refine w_iconst X dX4_init_117 ?_
          refine w_icmp_ge X 178 dX4_init_118 (by decide) (by omega) (by omega) (fun c_759 => ?_) (fun c_759 => ?_)
          · skip
            have e0 : Value.int (0 : Int32) = Value.int (wI 0) := by rw [wI_0]
            have hE0 : Mst a H.size 0 = a := rfl
            have hE1 : Mst a H.size 1 = a_5 := by show H.size + (1 - 1) = _; omega
            have hE2 : Mst a H.size 2 = a_17 := by show H.size + (2 - 1) = _; omega
            have hE3 : Mst a H.size 3 = a_31 := by show H.size + (3 - 1) = _; omega
            have hE5 : Mst a H.size 5 = a_47 := by show H.size + (5 - 2) = _; omega
            have hE6 : Mst a H.size 6 = a_65 := by show H.size + (6 - 2) = _; omega
            have hE7 : Mst a H.size 7 = a_85 := by show H.size + (7 - 2) = _; omega
            have hE8 : Mst a H.size 8 = a_107 := by show H.size + (8 - 2) = _; omega
            have hE9 : Mst a H.size 9 = a_131 := by show H.size + (9 - 2) = _; omega
            have hE10 : Mst a H.size 10 = a_157 := by show H.size + (10 - 2) = _; omega
            have hE11 : Mst a H.size 11 = a_185 := by show H.size + (11 - 2) = _; omega
            have hE12 : Mst a H.size 12 = a_215 := by show H.size + (12 - 2) = _; omega
            have hE13 : Mst a H.size 13 = a_247 := by show H.size + (13 - 2) = _; omega
            have hE14 : Mst a H.size 14 = a_281 := by show H.size + (14 - 2) = _; omega
            have hE15 : Mst a H.size 15 = a_317 := by show H.size + (15 - 2) = _; omega
            have hOz : Ob g H_739 (Mst a H.size 0) 5 [.int (wI (0)), .ref (Mst a H.size 1), .ref (Mst a H.size 2), .ref (Mst a H.size 3), .int (wI (sn st0 : Int)), .ref (Mst a H.size 5), .ref (Mst a H.size 6), .ref (Mst a H.size 7), .ref (Mst a H.size 8), .ref (Mst a H.size 9), .ref (Mst a H.size 10), .ref (Mst a H.size 11), .ref (Mst a H.size 12), .ref (Mst a H.size 13), .ref (Mst a H.size 14), .ref (Mst a H.size 15)] := by
              rw [hE0, hE1, hE2, hE3, hE5, hE6, hE7, hE8, hE9, hE10, hE11, hE12, hE13, hE14, hE15]
              have q := ho_744
              rw [e0] at q
              exact q
            have hZ1 : IA g H_739 (Mst a H.size 1) 4 (fun j => wI (st0.1 j 0)) := by
              rw [hE1]
              exact IA.ext hr_745 (by decide +kernel)
            have hZ2 : IA g H_739 (Mst a H.size 2) 4 (fun j => wI (st0.1 j 1)) := by
              rw [hE2]
              exact IA.ext hr_746 (by decide +kernel)
            have hZ3 : IA g H_739 (Mst a H.size 3) 12 (fun j => wI (st0.1 (j / 3) (2 + j % 3))) := by
              rw [hE3]
              exact IA.ext hr_741 (by decide +kernel)
            have hZ5 : IA g H_739 (Mst a H.size 5) 10 (fun j => wI (sp st0 j 0)) := by
              rw [hE5]
              exact IA.ext hr_747 (by decide +kernel)
            have hZ6 : IA g H_739 (Mst a H.size 6) 10 (fun j => wI (sp st0 j 1)) := by
              rw [hE6]
              exact IA.ext hr_748 (by decide +kernel)
            have hZ7 : IA g H_739 (Mst a H.size 7) 10 (fun j => wI (sp st0 j 2)) := by
              rw [hE7]
              exact IA.ext hr_749 (by decide +kernel)
            have hZ8 : IA g H_739 (Mst a H.size 8) 10 (fun j => wI (sp st0 j 3)) := by
              rw [hE8]
              exact IA.ext hr_750 (by decide +kernel)
            have hZ9 : IA g H_739 (Mst a H.size 9) 10 (fun j => wI (sp st0 j 4)) := by
              rw [hE9]
              exact IA.ext hr_751 (by decide +kernel)
            have hZ10 : IA g H_739 (Mst a H.size 10) 10 (fun j => wI (sp st0 j 5)) := by
              rw [hE10]
              exact IA.ext hr_752 (by decide +kernel)
            have hZ11 : IA g H_739 (Mst a H.size 11) 10 (fun j => wI (sp st0 j 6)) := by
              rw [hE11]
              exact IA.ext hr_753 (by decide +kernel)
            have hZ12 : IA g H_739 (Mst a H.size 12) 10 (fun j => wI ((sb st0 j : Int))) := by
              rw [hE12]
              exact IA.ext hr_754 (by decide +kernel)
            have hZ13 : IA g H_739 (Mst a H.size 13) 60 (fun j => wI (so st0 (j / 6) (j % 6) 0)) := by
              rw [hE13]
              exact IA.ext hr_755 (by decide +kernel)
            have hZ14 : IA g H_739 (Mst a H.size 14) 60 (fun j => wI (so st0 (j / 6) (j % 6) 1)) := by
              rw [hE14]
              exact IA.ext hr_756 (by decide +kernel)
            have hZ15 : IA g H_739 (Mst a H.size 15) 60 (fun j => wI (so st0 (j / 6) (j % 6) 2)) := by
              rw [hE15]
              exact IA.ext hr_757 (by decide +kernel)
            exact w_vrV X hr hk hS ⟨Mst a H.size, rfl, fun k _ _ => Mst_A hA hAa k, Mst_inj hlt, ModAt.mk hOz hZ1 hZ2 hZ3 hZ5 hZ6 hZ7 hZ8 hZ9 hZ10 hZ11 hZ12 hZ13 hZ14 hZ15⟩ dX4_init_178 (Nat.le_of_ble_eq_true rfl) (Nat.le_of_ble_eq_true rfl)
          · skip
            exact absurd c_759 (by omega)

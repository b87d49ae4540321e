theorem dX1_forward_0 : decode cX1_forward 0 = .ok (.aload_n 0, 1) := by decide +kernel
theorem dX1_forward_1 : decode cX1_forward 1 = .ok (.iconst 0, 1) := by decide +kernel
theorem dX1_forward_2 : decode cX1_forward 2 = .ok (.putfield 32, 3) := by decide +kernel
theorem dX1_forward_5 : decode cX1_forward 5 = .ok (.iconst 0, 1) := by decide +kernel
theorem dX1_forward_6 : decode cX1_forward 6 = .ok (.istore_n 1, 1) := by decide +kernel
theorem dX1_forward_7 : decode cX1_forward 7 = .ok (.iconst 0, 1) := by decide +kernel
theorem dX1_forward_8 : decode cX1_forward 8 = .ok (.istore_n 2, 1) := by decide +kernel
theorem dX1_forward_9 : decode cX1_forward 9 = .ok (.iload_n 2, 1) := by decide +kernel
theorem dX1_forward_10 : decode cX1_forward 10 = .ok (.bipush 64, 2) := by decide +kernel
theorem dX1_forward_12 : decode cX1_forward 12 = .ok (.if_icmp .ge 102, 3) := by decide +kernel
theorem dX1_forward_15 : decode cX1_forward 15 = .ok (.aload_n 0, 1) := by decide +kernel
theorem dX1_forward_16 : decode cX1_forward 16 = .ok (.aload_n 0, 1) := by decide +kernel
theorem dX1_forward_17 : decode cX1_forward 17 = .ok (.getfield 22, 3) := by decide +kernel
theorem dX1_forward_20 : decode cX1_forward 20 = .ok (.iload_n 2, 1) := by decide +kernel
theorem dX1_forward_21 : decode cX1_forward 21 = .ok (.iaload, 1) := by decide +kernel
theorem dX1_forward_22 : decode cX1_forward 22 = .ok (.aload_n 0, 1) := by decide +kernel
theorem dX1_forward_23 : decode cX1_forward 23 = .ok (.getfield 25, 3) := by decide +kernel
theorem dX1_forward_26 : decode cX1_forward 26 = .ok (.iload_n 2, 1) := by decide +kernel
theorem dX1_forward_27 : decode cX1_forward 27 = .ok (.iaload, 1) := by decide +kernel
theorem dX1_forward_28 : decode cX1_forward 28 = .ok (.invokevirtual 67, 3) := by decide +kernel
theorem dX1_forward_31 : decode cX1_forward 31 = .ok (.lstore_n 3, 1) := by decide +kernel
theorem dX1_forward_32 : decode cX1_forward 32 = .ok (.lload_n 3, 1) := by decide +kernel
theorem dX1_forward_33 : decode cX1_forward 33 = .ok (.lconst 0, 1) := by decide +kernel
theorem dX1_forward_34 : decode cX1_forward 34 = .ok (.lcmp, 1) := by decide +kernel
theorem dX1_forward_35 : decode cX1_forward 35 = .ok (.ifCond .ge 8, 3) := by decide +kernel
theorem dX1_forward_38 : decode cX1_forward 38 = .ok (.lload_n 3, 1) := by decide +kernel
theorem dX1_forward_39 : decode cX1_forward 39 = .ok (.lneg, 1) := by decide +kernel
theorem dX1_forward_40 : decode cX1_forward 40 = .ok (.goto 4, 3) := by decide +kernel
theorem dX1_forward_43 : decode cX1_forward 43 = .ok (.lload_n 3, 1) := by decide +kernel
theorem dX1_forward_44 : decode cX1_forward 44 = .ok (.ldc2_w 71, 3) := by decide +kernel
theorem dX1_forward_47 : decode cX1_forward 47 = .ok (.lmul, 1) := by decide +kernel
theorem dX1_forward_48 : decode cX1_forward 48 = .ok (.aload_n 0, 1) := by decide +kernel
theorem dX1_forward_49 : decode cX1_forward 49 = .ok (.getfield 13, 3) := by decide +kernel
theorem dX1_forward_52 : decode cX1_forward 52 = .ok (.iload_n 2, 1) := by decide +kernel
theorem dX1_forward_53 : decode cX1_forward 53 = .ok (.iaload, 1) := by decide +kernel
theorem dX1_forward_54 : decode cX1_forward 54 = .ok (.i2l, 1) := by decide +kernel
theorem dX1_forward_55 : decode cX1_forward 55 = .ok (.ladd, 1) := by decide +kernel
theorem dX1_forward_56 : decode cX1_forward 56 = .ok (.ldc2_w 71, 3) := by decide +kernel
theorem dX1_forward_59 : decode cX1_forward 59 = .ok (.aload_n 0, 1) := by decide +kernel
theorem dX1_forward_60 : decode cX1_forward 60 = .ok (.getfield 13, 3) := by decide +kernel
theorem dX1_forward_63 : decode cX1_forward 63 = .ok (.iload_n 2, 1) := by decide +kernel
theorem dX1_forward_64 : decode cX1_forward 64 = .ok (.iaload, 1) := by decide +kernel
theorem dX1_forward_65 : decode cX1_forward 65 = .ok (.i2l, 1) := by decide +kernel
theorem dX1_forward_66 : decode cX1_forward 66 = .ok (.lmul, 1) := by decide +kernel
theorem dX1_forward_67 : decode cX1_forward 67 = .ok (.ldiv, 1) := by decide +kernel
theorem dX1_forward_68 : decode cX1_forward 68 = .ok (.lstore 5, 2) := by decide +kernel
theorem dX1_forward_70 : decode cX1_forward 70 = .ok (.aload_n 0, 1) := by decide +kernel
theorem dX1_forward_71 : decode cX1_forward 71 = .ok (.getfield 7, 3) := by decide +kernel
theorem dX1_forward_74 : decode cX1_forward 74 = .ok (.iload_n 2, 1) := by decide +kernel
theorem dX1_forward_75 : decode cX1_forward 75 = .ok (.lload_n 3, 1) := by decide +kernel
theorem dX1_forward_76 : decode cX1_forward 76 = .ok (.lconst 0, 1) := by decide +kernel
theorem dX1_forward_77 : decode cX1_forward 77 = .ok (.lcmp, 1) := by decide +kernel
theorem dX1_forward_78 : decode cX1_forward 78 = .ok (.ifCond .ge 9, 3) := by decide +kernel
theorem dX1_forward_81 : decode cX1_forward 81 = .ok (.lload 5, 2) := by decide +kernel
theorem dX1_forward_83 : decode cX1_forward 83 = .ok (.lneg, 1) := by decide +kernel
theorem dX1_forward_84 : decode cX1_forward 84 = .ok (.goto 5, 3) := by decide +kernel
theorem dX1_forward_87 : decode cX1_forward 87 = .ok (.lload 5, 2) := by decide +kernel
theorem dX1_forward_89 : decode cX1_forward 89 = .ok (.l2i, 1) := by decide +kernel
theorem dX1_forward_90 : decode cX1_forward 90 = .ok (.iastore, 1) := by decide +kernel
theorem dX1_forward_91 : decode cX1_forward 91 = .ok (.iload_n 1, 1) := by decide +kernel
theorem dX1_forward_92 : decode cX1_forward 92 = .ok (.aload_n 0, 1) := by decide +kernel
theorem dX1_forward_93 : decode cX1_forward 93 = .ok (.getfield 7, 3) := by decide +kernel
theorem dX1_forward_96 : decode cX1_forward 96 = .ok (.iload_n 2, 1) := by decide +kernel
theorem dX1_forward_97 : decode cX1_forward 97 = .ok (.iaload, 1) := by decide +kernel
theorem dX1_forward_98 : decode cX1_forward 98 = .ok (.ifCond .eq 7, 3) := by decide +kernel
theorem dX1_forward_101 : decode cX1_forward 101 = .ok (.iconst 1, 1) := by decide +kernel
theorem dX1_forward_102 : decode cX1_forward 102 = .ok (.goto 4, 3) := by decide +kernel
theorem dX1_forward_105 : decode cX1_forward 105 = .ok (.iconst 0, 1) := by decide +kernel
theorem dX1_forward_106 : decode cX1_forward 106 = .ok (.iadd, 1) := by decide +kernel
theorem dX1_forward_107 : decode cX1_forward 107 = .ok (.istore_n 1, 1) := by decide +kernel
theorem dX1_forward_108 : decode cX1_forward 108 = .ok (.iinc 2 1, 3) := by decide +kernel
theorem dX1_forward_111 : decode cX1_forward 111 = .ok (.goto (-102), 3) := by decide +kernel
theorem dX1_forward_114 : decode cX1_forward 114 = .ok (.iload_n 1, 1) := by decide +kernel
theorem dX1_forward_115 : decode cX1_forward 115 = .ok (.ireturn, 1) := by decide +kernel
theorem dX1_back_0 : decode cX1_back 0 = .ok (.aload_n 0, 1) := by decide +kernel
theorem dX1_back_1 : decode cX1_back 1 = .ok (.iload_n 1, 1) := by decide +kernel
theorem dX1_back_2 : decode cX1_back 2 = .ok (.invokestatic 58, 3) := by decide +kernel
theorem dX1_back_5 : decode cX1_back 5 = .ok (.ifCond .eq 7, 3) := by decide +kernel
theorem dX1_back_8 : decode cX1_back 8 = .ok (.iconst 0, 1) := by decide +kernel
theorem dX1_back_9 : decode cX1_back 9 = .ok (.goto 4, 3) := by decide +kernel
theorem dX1_back_12 : decode cX1_back 12 = .ok (.iconst 1, 1) := by decide +kernel
theorem dX1_back_13 : decode cX1_back 13 = .ok (.putfield 32, 3) := by decide +kernel
theorem dX1_back_16 : decode cX1_back 16 = .ok (.aload_n 0, 1) := by decide +kernel
theorem dX1_back_17 : decode cX1_back 17 = .ok (.getfield 32, 3) := by decide +kernel
theorem dX1_back_20 : decode cX1_back 20 = .ok (.ifCond .le 5, 3) := by decide +kernel
theorem dX1_back_23 : decode cX1_back 23 = .ok (.lconst 0, 1) := by decide +kernel
theorem dX1_back_24 : decode cX1_back 24 = .ok (.lreturn, 1) := by decide +kernel
theorem dX1_back_25 : decode cX1_back 25 = .ok (.lconst 0, 1) := by decide +kernel
theorem dX1_back_26 : decode cX1_back 26 = .ok (.lstore_n 2, 1) := by decide +kernel
theorem dX1_back_27 : decode cX1_back 27 = .ok (.iconst 0, 1) := by decide +kernel
theorem dX1_back_28 : decode cX1_back 28 = .ok (.istore 4, 2) := by decide +kernel
theorem dX1_back_30 : decode cX1_back 30 = .ok (.iload 4, 2) := by decide +kernel
theorem dX1_back_32 : decode cX1_back 32 = .ok (.iload_n 1, 1) := by decide +kernel
theorem dX1_back_33 : decode cX1_back 33 = .ok (.if_icmp .ge 78, 3) := by decide +kernel
theorem dX1_back_36 : decode cX1_back 36 = .ok (.iconst 0, 1) := by decide +kernel
theorem dX1_back_37 : decode cX1_back 37 = .ok (.istore 5, 2) := by decide +kernel
theorem dX1_back_39 : decode cX1_back 39 = .ok (.iload 5, 2) := by decide +kernel
theorem dX1_back_41 : decode cX1_back 41 = .ok (.iload_n 1, 1) := by decide +kernel
theorem dX1_back_42 : decode cX1_back 42 = .ok (.if_icmp .ge 63, 3) := by decide +kernel
theorem dX1_back_45 : decode cX1_back 45 = .ok (.aload_n 0, 1) := by decide +kernel
theorem dX1_back_46 : decode cX1_back 46 = .ok (.iload_n 1, 1) := by decide +kernel
theorem dX1_back_47 : decode cX1_back 47 = .ok (.iload 4, 2) := by decide +kernel
theorem dX1_back_49 : decode cX1_back 49 = .ok (.iload 5, 2) := by decide +kernel
theorem dX1_back_51 : decode cX1_back 51 = .ok (.invokevirtual 61, 3) := by decide +kernel
theorem dX1_back_54 : decode cX1_back 54 = .ok (.lstore 6, 2) := by decide +kernel
theorem dX1_back_56 : decode cX1_back 56 = .ok (.aload_n 0, 1) := by decide +kernel
theorem dX1_back_57 : decode cX1_back 57 = .ok (.getfield 28, 3) := by decide +kernel
theorem dX1_back_60 : decode cX1_back 60 = .ok (.bipush 8, 2) := by decide +kernel
theorem dX1_back_62 : decode cX1_back 62 = .ok (.iload 4, 2) := by decide +kernel
theorem dX1_back_64 : decode cX1_back 64 = .ok (.imul, 1) := by decide +kernel
theorem dX1_back_65 : decode cX1_back 65 = .ok (.iload 5, 2) := by decide +kernel
theorem dX1_back_67 : decode cX1_back 67 = .ok (.iadd, 1) := by decide +kernel
theorem dX1_back_68 : decode cX1_back 68 = .ok (.lload 6, 2) := by decide +kernel
theorem dX1_back_70 : decode cX1_back 70 = .ok (.lastore, 1) := by decide +kernel
theorem dX1_back_71 : decode cX1_back 71 = .ok (.lload 6, 2) := by decide +kernel
theorem dX1_back_73 : decode cX1_back 73 = .ok (.lload_n 2, 1) := by decide +kernel
theorem dX1_back_74 : decode cX1_back 74 = .ok (.lcmp, 1) := by decide +kernel
theorem dX1_back_75 : decode cX1_back 75 = .ok (.ifCond .le 8, 3) := by decide +kernel
theorem dX1_back_78 : decode cX1_back 78 = .ok (.lload 6, 2) := by decide +kernel
theorem dX1_back_80 : decode cX1_back 80 = .ok (.goto 18, 3) := by decide +kernel
theorem dX1_back_83 : decode cX1_back 83 = .ok (.lload 6, 2) := by decide +kernel
theorem dX1_back_85 : decode cX1_back 85 = .ok (.lneg, 1) := by decide +kernel
theorem dX1_back_86 : decode cX1_back 86 = .ok (.lload_n 2, 1) := by decide +kernel
theorem dX1_back_87 : decode cX1_back 87 = .ok (.lcmp, 1) := by decide +kernel
theorem dX1_back_88 : decode cX1_back 88 = .ok (.ifCond .le 9, 3) := by decide +kernel
theorem dX1_back_91 : decode cX1_back 91 = .ok (.lload 6, 2) := by decide +kernel
theorem dX1_back_93 : decode cX1_back 93 = .ok (.lneg, 1) := by decide +kernel
theorem dX1_back_94 : decode cX1_back 94 = .ok (.goto 4, 3) := by decide +kernel
theorem dX1_back_97 : decode cX1_back 97 = .ok (.lload_n 2, 1) := by decide +kernel
theorem dX1_back_98 : decode cX1_back 98 = .ok (.lstore_n 2, 1) := by decide +kernel
theorem dX1_back_99 : decode cX1_back 99 = .ok (.iinc 5 1, 3) := by decide +kernel
theorem dX1_back_102 : decode cX1_back 102 = .ok (.goto (-63), 3) := by decide +kernel
theorem dX1_back_105 : decode cX1_back 105 = .ok (.iinc 4 1, 3) := by decide +kernel
theorem dX1_back_108 : decode cX1_back 108 = .ok (.goto (-78), 3) := by decide +kernel
theorem dX1_back_111 : decode cX1_back 111 = .ok (.iconst 0, 1) := by decide +kernel
theorem dX1_back_112 : decode cX1_back 112 = .ok (.istore 4, 2) := by decide +kernel
theorem dX1_back_114 : decode cX1_back 114 = .ok (.iload 4, 2) := by decide +kernel
theorem dX1_back_116 : decode cX1_back 116 = .ok (.iload_n 1, 1) := by decide +kernel
theorem dX1_back_117 : decode cX1_back 117 = .ok (.if_icmp .ge 125, 3) := by decide +kernel
theorem dX1_back_120 : decode cX1_back 120 = .ok (.iconst 0, 1) := by decide +kernel
theorem dX1_back_121 : decode cX1_back 121 = .ok (.istore 5, 2) := by decide +kernel
theorem dX1_back_123 : decode cX1_back 123 = .ok (.iload 5, 2) := by decide +kernel
theorem dX1_back_125 : decode cX1_back 125 = .ok (.iload_n 1, 1) := by decide +kernel
theorem dX1_back_126 : decode cX1_back 126 = .ok (.if_icmp .ge 110, 3) := by decide +kernel
theorem dX1_back_129 : decode cX1_back 129 = .ok (.lconst 0, 1) := by decide +kernel
theorem dX1_back_130 : decode cX1_back 130 = .ok (.lstore 6, 2) := by decide +kernel
theorem dX1_back_132 : decode cX1_back 132 = .ok (.iconst 0, 1) := by decide +kernel
theorem dX1_back_133 : decode cX1_back 133 = .ok (.istore 8, 2) := by decide +kernel
theorem dX1_back_135 : decode cX1_back 135 = .ok (.iload 8, 2) := by decide +kernel
theorem dX1_back_137 : decode cX1_back 137 = .ok (.iload_n 1, 1) := by decide +kernel
theorem dX1_back_138 : decode cX1_back 138 = .ok (.if_icmp .ge 37, 3) := by decide +kernel
theorem dX1_back_141 : decode cX1_back 141 = .ok (.lload 6, 2) := by decide +kernel
theorem dX1_back_143 : decode cX1_back 143 = .ok (.iload_n 1, 1) := by decide +kernel
theorem dX1_back_144 : decode cX1_back 144 = .ok (.iload 8, 2) := by decide +kernel
theorem dX1_back_146 : decode cX1_back 146 = .ok (.iload 5, 2) := by decide +kernel
theorem dX1_back_148 : decode cX1_back 148 = .ok (.invokestatic 50, 3) := by decide +kernel
theorem dX1_back_151 : decode cX1_back 151 = .ok (.i2l, 1) := by decide +kernel
theorem dX1_back_152 : decode cX1_back 152 = .ok (.aload_n 0, 1) := by decide +kernel
theorem dX1_back_153 : decode cX1_back 153 = .ok (.getfield 28, 3) := by decide +kernel
theorem dX1_back_156 : decode cX1_back 156 = .ok (.bipush 8, 2) := by decide +kernel
theorem dX1_back_158 : decode cX1_back 158 = .ok (.iload 4, 2) := by decide +kernel
theorem dX1_back_160 : decode cX1_back 160 = .ok (.imul, 1) := by decide +kernel
theorem dX1_back_161 : decode cX1_back 161 = .ok (.iload 8, 2) := by decide +kernel
theorem dX1_back_163 : decode cX1_back 163 = .ok (.iadd, 1) := by decide +kernel
theorem dX1_back_164 : decode cX1_back 164 = .ok (.laload, 1) := by decide +kernel
theorem dX1_back_165 : decode cX1_back 165 = .ok (.lmul, 1) := by decide +kernel
theorem dX1_back_166 : decode cX1_back 166 = .ok (.ladd, 1) := by decide +kernel
theorem dX1_back_167 : decode cX1_back 167 = .ok (.lstore 6, 2) := by decide +kernel
theorem dX1_back_169 : decode cX1_back 169 = .ok (.iinc 8 1, 3) := by decide +kernel
theorem dX1_back_172 : decode cX1_back 172 = .ok (.goto (-37), 3) := by decide +kernel
theorem dX1_back_175 : decode cX1_back 175 = .ok (.lload 6, 2) := by decide +kernel
theorem dX1_back_177 : decode cX1_back 177 = .ok (.bipush 17, 2) := by decide +kernel
theorem dX1_back_179 : decode cX1_back 179 = .ok (.invokestatic 54, 3) := by decide +kernel
theorem dX1_back_182 : decode cX1_back 182 = .ok (.ldc2_w 65, 3) := by decide +kernel
theorem dX1_back_185 : decode cX1_back 185 = .ok (.ladd, 1) := by decide +kernel
theorem dX1_back_186 : decode cX1_back 186 = .ok (.lstore 8, 2) := by decide +kernel
theorem dX1_back_188 : decode cX1_back 188 = .ok (.aload_n 0, 1) := by decide +kernel
theorem dX1_back_189 : decode cX1_back 189 = .ok (.getfield 16, 3) := by decide +kernel
theorem dX1_back_192 : decode cX1_back 192 = .ok (.bipush 8, 2) := by decide +kernel
theorem dX1_back_194 : decode cX1_back 194 = .ok (.iload 4, 2) := by decide +kernel
theorem dX1_back_196 : decode cX1_back 196 = .ok (.imul, 1) := by decide +kernel
theorem dX1_back_197 : decode cX1_back 197 = .ok (.iload 5, 2) := by decide +kernel
theorem dX1_back_199 : decode cX1_back 199 = .ok (.iadd, 1) := by decide +kernel
theorem dX1_back_200 : decode cX1_back 200 = .ok (.lload 8, 2) := by decide +kernel
theorem dX1_back_202 : decode cX1_back 202 = .ok (.lconst 0, 1) := by decide +kernel
theorem dX1_back_203 : decode cX1_back 203 = .ok (.lcmp, 1) := by decide +kernel
theorem dX1_back_204 : decode cX1_back 204 = .ok (.ifCond .ge 7, 3) := by decide +kernel
theorem dX1_back_207 : decode cX1_back 207 = .ok (.iconst 0, 1) := by decide +kernel
theorem dX1_back_208 : decode cX1_back 208 = .ok (.goto 21, 3) := by decide +kernel
theorem dX1_back_211 : decode cX1_back 211 = .ok (.lload 8, 2) := by decide +kernel
theorem dX1_back_213 : decode cX1_back 213 = .ok (.ldc2_w 44, 3) := by decide +kernel
theorem dX1_back_216 : decode cX1_back 216 = .ok (.lcmp, 1) := by decide +kernel
theorem dX1_back_217 : decode cX1_back 217 = .ok (.ifCond .le 9, 3) := by decide +kernel
theorem dX1_back_220 : decode cX1_back 220 = .ok (.sipush 255, 3) := by decide +kernel
theorem dX1_back_223 : decode cX1_back 223 = .ok (.goto 6, 3) := by decide +kernel
theorem dX1_back_226 : decode cX1_back 226 = .ok (.lload 8, 2) := by decide +kernel
theorem dX1_back_228 : decode cX1_back 228 = .ok (.l2i, 1) := by decide +kernel
theorem dX1_back_229 : decode cX1_back 229 = .ok (.iastore, 1) := by decide +kernel
theorem dX1_back_230 : decode cX1_back 230 = .ok (.iinc 5 1, 3) := by decide +kernel
theorem dX1_back_233 : decode cX1_back 233 = .ok (.goto (-110), 3) := by decide +kernel
theorem dX1_back_236 : decode cX1_back 236 = .ok (.iinc 4 1, 3) := by decide +kernel
theorem dX1_back_239 : decode cX1_back 239 = .ok (.goto (-125), 3) := by decide +kernel
theorem dX1_back_242 : decode cX1_back 242 = .ok (.lload_n 2, 1) := by decide +kernel
theorem dX1_back_243 : decode cX1_back 243 = .ok (.lreturn, 1) := by decide +kernel
set_option maxHeartbeats 4000000 in
set_option maxRecDepth 100000 in
/-- the reference: forward -/
theorem n_forward (l : Launch) (D : va_G) (y : Nat → Nat) (ce : Nat → ClassId) (th : Int32) (r0 r1 r2 r3 dn ac : Nat → Int32) (sm : Nat → Int64) (hdn : dnOk dn ac) (hst : ∀ j, j < 64 → 1 ≤ (r1 j).toInt ∧ (r1 j).toInt ≤ 255) (sz : Nat) : Met l yX1_forward wsX1_forward ({ frames := 3, cells := 0, slots := 0, locals := 71 } : Room) (va_Pc [.ref (y 0)] (crw D (mw y ce th r0 r1 r2 r3 dn ac sm) (mty ce) sz)) (va_Qi (fun (r : Int32) (u9 : Int32 × (Nat → Int32)) => match u9 with | (t9, u) => t9 = 0 ∧ r = cntI u 64 ∧ ∀ j, j < 64 → u j = nearR (eN r2 (cCn j / 8) (cCn j % 8)) (r1 j)) (fun (u9 : Int32 × (Nat → Int32)) (t : State) => match u9 with | (t9, u) => crB D (mw y ce t9 u r1 r2 r3 dn ac sm) (mty ce) (va_A (mw y ce th r0 r1 r2 r3 dn ac sm) sz) t) (va_A (mw y ce th r0 r1 r2 r3 dn ac sm) sz)) 0 0 (va_A (mw y ce th r0 r1 r2 r3 dn ac sm) sz) := by
  refine Met.ofW (cc := cX1_forward) (maxL := 7) (ret := some .int) (by decide) rfl ?_
  intro p e s m args below meth c s₁ B hml hv
  obtain ⟨rfl, hsz, hP, hK, hD0, hTb⟩ := hv
  have hx := B.exec
  have hb := B.bytes
  have hr := B.returns
  have hts : ∀ w ∈ wA, w.before _ s = true := fun w h => atoms_spec (ws := wsX1_forward) B.pre w (List.mem_cons_of_mem _ h)
  have hown : s.vm.findClass RX1 = some m.cls := findClass_of_methodNamed B.named
  have hlocks := B.notSynchronized
  subst hsz
  have hD := hD0.self (sz := s.heap.size)
  generalize hAe : va_A (mw y ce th r0 r1 r2 r3 dn ac sm) s.heap.size = A at hD hTb ⊢
  have hA : ∀ q : Nat, s.heap.size ≤ q → A q := fun q h => by rw [← hAe]; exact Or.inr h
  have hS : va_S A s.heap s.heap [] := va_S.rf
  have hin1 := inA1
  have hf32 := (hts _ wm_302)
  have hf22 := (hts _ wm_307)
  have hf25 := (hts _ wm_308)
  have hf13 := (hts _ wm_304)
  have hf7 := (hts _ wm_303)
  have hl := lv_entry ([.ref (y 0)]) (n := 7) (Nat.le_of_ble_eq_true rfl)
  rw [lg_entry_eq]
  generalize (lg_sl ([.ref (y 0)]) ++ List.replicate (7 - (lg_sl ([.ref (y 0)])).length) Slot.unset).toArray = ls at hl ⊢
  have hl : lv_has ls 7 [(0, .ref (y 0))] := hl
  refine lv_aload_n hx hb dX1_forward_0 rfl (lv_at hl 0 rfl) ?_
  refine lv_iconst (v := (0 : Int32)) hx hb dX1_forward_1 (by decide +kernel) ?_
  refine va_put (D := D) (ci := 1) (v := .int (0 : Int32)) (ty := .int) (C := RX1) (T := TX1) (N := 8) hx hb hts hin1 tyX1 tyX1_ok nmX1 hown hK hP hD hS 0 rfl rfl 0 (by decide) hf32 (fun _ h9 => h9) rfl (by decide +kernel) rfl rfl (Nat.le_of_ble_eq_true rfl) dX1_forward_2 (fun H locs hP hD hS => ?_)
  have hP : va_P D vwCl (mw y ce (0 : Int32) r0 r1 r2 r3 dn ac sm) H := hP
  have hD : va_D A (mw y ce (0 : Int32) r0 r1 r2 r3 dn ac sm) := hD
  refine lv_iconst (v := (0 : Int32)) hx hb dX1_forward_5 (by decide +kernel) ?_
  refine lv_istore_n (lv' := [(1, .int (0 : Int32)), (0, .ref (y 0))]) hx hb dX1_forward_6 rfl hl (by decide) rfl (fun ls hl => ?_)
  refine lv_iconst (v := (0 : Int32)) hx hb dX1_forward_7 (by decide +kernel) ?_
  refine lv_istore_n (lv' := [(2, .int (0 : Int32)), (1, .int (0 : Int32)), (0, .ref (y 0))]) hx hb dX1_forward_8 rfl hl (by decide) rfl (fun ls hl => ?_)
  have L9 : ∀ (n : Nat) (k9 : Nat) (w9 : Nat → Int32) (H : Heap) (locs : List Loc) (ls : Array Slot), (64 - k9) < n → (k9 ≤ 64) → (∀ j, j < k9 → w9 j = nearR (eN r2 (cCn j / 8) (cCn j % 8)) (r1 j)) → va_P D vwCl (mw y ce (0 : Int32) w9 r1 r2 r3 dn ac sm) H → va_D A (mw y ce (0 : Int32) w9 r1 r2 r3 dn ac sm) → va_S A s.heap H locs → lv_has ls 7 [(0, .ref (y 0)), (1, .int (cntI w9 k9)), (2, .int (nI k9))] → W p l e ((headSpec wsX1_forward ({ frames := 3, cells := 0, slots := 0, locals := 71 } : Room)).room) s m (([.ref (y 0)] : List Value).toArray) below meth c H locs 0 0 (MQ below (va_Qi (fun (r : Int32) (u9 : Int32 × (Nat → Int32)) => match u9 with | (t9, u) => t9 = 0 ∧ r = cntI u 64 ∧ ∀ j, j < 64 → u j = nearR (eN r2 (cCn j / 8) (cCn j % 8)) (r1 j)) (fun (u9 : Int32 × (Nat → Int32)) (t : State) => match u9 with | (t9, u) => crB D (mw y ce t9 u r1 r2 r3 dn ac sm) (mty ce) A t) A) ([.ref (y 0)] : List Value).toArray s 0 0 A) (F0 m 9 ls []) := by
    intro n
    induction n with
    | zero =>
      intro k9 w9 H locs ls hn
      exact absurd hn (Nat.not_lt_zero _)
    | succ n ih9 =>
      intro k9 w9 H locs ls hn9 hk9 hw9 hP hD hS hl
      refine lv_iload_n hx hb dX1_forward_9 rfl (lv_at hl 2 rfl) ?_
      refine lv_bipush (v := (64 : Int32)) hx hb dX1_forward_10 (by decide +kernel) ?_
      refine cx_icmp_ge (i := ((k9 : Nat) : Int)) (j := 64) (tgt := 114) hx hb (nI_toInt (by omega)) (by decide +kernel) dX1_forward_12 (by decide) (fun c_1 => ?_) (fun c_1 => ?_)
      · refine lv_iload_n hx hb dX1_forward_114 rfl (lv_at hl 1 rfl) ?_
        exact W.iret (v := cntI w9 k9) hx hb hr (fun t ht hW => ⟨⟨cntI w9 k9, ((0 : Int32), w9), rfl, (by obtain rfl : k9 = 64 := (by omega); exact ⟨rfl, rfl, hw9⟩), by rw [ht]; exact hP, va_K.moved hW.alike hK, hD⟩, hS.F ht⟩) hS.2.2 dX1_forward_115
      · have hck := cCn_lt k9 (by omega)
        refine lv_aload_n hx hb dX1_forward_15 rfl (lv_at hl 0 rfl) ?_
        refine lv_aload_n hx hb dX1_forward_16 rfl (lv_at hl 0 rfl) ?_
        refine va_get (D := D) (ci := 1) (v := .ref (y 5)) (C := RX1) (T := TX1) (N := 8) hx hb hts hin1 hown hK hP 0 rfl rfl 5 (by decide) hf22 (fun _ h9 => h9) rfl dX1_forward_17 ?_
        refine lv_iload_n hx hb dX1_forward_20 rfl (lv_at hl 2 rfl) ?_
        refine cx_iald hx hb hK hP 5 4 rfl rfl k9 (by omega) (by decide) dX1_forward_21 ?_
        have e_2 : dn k9 = nI (cCn k9 / 8) := (hdn k9 (by omega)).1
        rw [e_2]
        refine lv_aload_n hx hb dX1_forward_22 rfl (lv_at hl 0 rfl) ?_
        refine va_get (D := D) (ci := 1) (v := .ref (y 6)) (C := RX1) (T := TX1) (N := 8) hx hb hts hin1 hown hK hP 0 rfl rfl 6 (by decide) hf25 (fun _ h9 => h9) rfl dX1_forward_23 ?_
        refine lv_iload_n hx hb dX1_forward_26 rfl (lv_at hl 2 rfl) ?_
        refine cx_iald hx hb hK hP 6 5 rfl rfl k9 (by omega) (by decide) dX1_forward_27 ?_
        have e_3 : ac k9 = nI (cCn k9 % 8) := (hdn k9 (by omega)).2
        rw [e_3]
        refine vp_callSl (W.runV (As := [.int (nI (cCn k9 / 8)), .int (nI (cCn k9 % 8))]) (rest := []) ⟨hx, hb, hml, hown, hts⟩ (n_exactOf l D y ce (0 : Int32) w9 r1 r2 r3 dn ac sm (cCn k9 / 8) (cCn k9 % 8) (by omega) (by omega)) (cwV 2 hts (gw_V wm_380 wm_382 wm_10 wm_13 wm_383) rfl rfl rfl (by decide +kernel) ⟨Nat.le_of_ble_eq_true rfl, Nat.le_of_ble_eq_true rfl⟩) ⟨cro_blind, va_recv hK hP (ci := 1) (q0 := 0) rfl rfl, fun U hU hW => ⟨rfl, cro_at hP hK hTb hS hU hW⟩⟩ rfl rfl hl.1 rfl (lv_room (Nat.le_of_ble_eq_true rfl)) dX1_forward_28 ⟨Nat.le_of_ble_eq_true rfl, Nat.le_of_ble_eq_true rfl⟩) (fun r_4 hr_4 => ?_)
        rw [hr_4]
        refine lv_lstore_n (lv' := [(3, .long (eN r2 (cCn k9 / 8) (cCn k9 % 8))), (0, .ref (y 0)), (1, .int (cntI w9 k9)), (2, .int (nI k9))]) hx hb dX1_forward_31 rfl hl (by decide) rfl (fun ls hl => ?_)
        have J44 : ∀ (tv : Int64), (tv = abR (eN r2 (cCn k9 / 8) (cCn k9 % 8))) → W p l e ((headSpec wsX1_forward ({ frames := 3, cells := 0, slots := 0, locals := 71 } : Room)).room) s m (([.ref (y 0)] : List Value).toArray) below meth c H locs 0 0 (MQ below (va_Qi (fun (r : Int32) (u9 : Int32 × (Nat → Int32)) => match u9 with | (t9, u) => t9 = 0 ∧ r = cntI u 64 ∧ ∀ j, j < 64 → u j = nearR (eN r2 (cCn j / 8) (cCn j % 8)) (r1 j)) (fun (u9 : Int32 × (Nat → Int32)) (t : State) => match u9 with | (t9, u) => crB D (mw y ce t9 u r1 r2 r3 dn ac sm) (mty ce) A t) A) ([.ref (y 0)] : List Value).toArray s 0 0 A) (F0 m 44 ls [.long tv]) := by
          intro tv htv
          refine lv_ldc2 (v := (2 : Int64)) hx hb hown (hts _ wm_384) dX1_forward_44 ?_
          refine lv_lmul hx hb dX1_forward_47 ?_
          refine lv_aload_n hx hb dX1_forward_48 rfl (lv_at hl 1 rfl) ?_
          refine va_get (D := D) (ci := 1) (v := .ref (y 2)) (C := RX1) (T := TX1) (N := 8) hx hb hts hin1 hown hK hP 0 rfl rfl 2 (by decide) hf13 (fun _ h9 => h9) rfl dX1_forward_49 ?_
          refine lv_iload_n hx hb dX1_forward_52 rfl (lv_at hl 3 rfl) ?_
          refine cx_iald hx hb hK hP 2 1 rfl rfl k9 (by omega) (by decide) dX1_forward_53 ?_
          refine lv_i2l hx hb dX1_forward_54 rfl ?_
          refine lv_ladd hx hb dX1_forward_55 ?_
          refine lv_ldc2 (v := (2 : Int64)) hx hb hown (hts _ wm_384) dX1_forward_56 ?_
          refine lv_aload_n hx hb dX1_forward_59 rfl (lv_at hl 1 rfl) ?_
          refine va_get (D := D) (ci := 1) (v := .ref (y 2)) (C := RX1) (T := TX1) (N := 8) hx hb hts hin1 hown hK hP 0 rfl rfl 2 (by decide) hf13 (fun _ h9 => h9) rfl dX1_forward_60 ?_
          refine lv_iload_n hx hb dX1_forward_63 rfl (lv_at hl 3 rfl) ?_
          refine cx_iald hx hb hK hP 2 1 rfl rfl k9 (by omega) (by decide) dX1_forward_64 ?_
          refine lv_i2l hx hb dX1_forward_65 rfl ?_
          refine lv_lmul hx hb dX1_forward_66 ?_
          refine lv_ldiv hx hb dX1_forward_67 (cx_2stL (hst k9 (by omega)).1 (hst k9 (by omega)).2) ?_
          refine lv_lstore (lv' := [(5, .long (((tv * (2 : Int64)) + ((r1 k9).toInt64)) / ((2 : Int64) * ((r1 k9).toInt64)))), (3, .long (eN r2 (cCn k9 / 8) (cCn k9 % 8))), (0, .ref (y 0)), (1, .int (cntI w9 k9)), (2, .int (nI k9))]) hx hb dX1_forward_68 hl (by decide) rfl (fun ls hl => ?_)
          have e_5 : ((tv * (2 : Int64)) + ((r1 k9).toInt64)) / ((2 : Int64) * ((r1 k9).toInt64)) = amtR (eN r2 (cCn k9 / 8) (cCn k9 % 8)) (r1 k9) := by rw [htv]; rfl
          rw [e_5] at hl
          refine lv_aload_n hx hb dX1_forward_70 rfl (lv_at hl 2 rfl) ?_
          refine va_get (D := D) (ci := 1) (v := .ref (y 1)) (C := RX1) (T := TX1) (N := 8) hx hb hts hin1 hown hK hP 0 rfl rfl 1 (by decide) hf7 (fun _ h9 => h9) rfl dX1_forward_71 ?_
          refine lv_iload_n hx hb dX1_forward_74 rfl (lv_at hl 4 rfl) ?_
          have J89 : ∀ (tu : Int64), (tu = if (eN r2 (cCn k9 / 8) (cCn k9 % 8)).toInt < 0 then -amtR (eN r2 (cCn k9 / 8) (cCn k9 % 8)) (r1 k9) else amtR (eN r2 (cCn k9 / 8) (cCn k9 % 8)) (r1 k9)) → W p l e ((headSpec wsX1_forward ({ frames := 3, cells := 0, slots := 0, locals := 71 } : Room)).room) s m (([.ref (y 0)] : List Value).toArray) below meth c H locs 0 0 (MQ below (va_Qi (fun (r : Int32) (u9 : Int32 × (Nat → Int32)) => match u9 with | (t9, u) => t9 = 0 ∧ r = cntI u 64 ∧ ∀ j, j < 64 → u j = nearR (eN r2 (cCn j / 8) (cCn j % 8)) (r1 j)) (fun (u9 : Int32 × (Nat → Int32)) (t : State) => match u9 with | (t9, u) => crB D (mw y ce t9 u r1 r2 r3 dn ac sm) (mty ce) A t) A) ([.ref (y 0)] : List Value).toArray s 0 0 A) (F0 m 89 ls [.long tu, .int (nI k9), .ref (y 1)]) := by
            intro tu htu
            refine lv_l2i hx hb dX1_forward_89 rfl ?_
            have e_6 : tu.toInt32 = nearR (eN r2 (cCn k9 / 8) (cCn k9 % 8)) (r1 k9) := by rw [htu]; rfl
            rw [e_6]
            refine cx_iast hx hb hK hP hD hS 1 0 rfl rfl k9 (by omega) (by decide) dX1_forward_90 (fun H locs hP hD hS => ?_)
            have hP : va_P D vwCl (mw y ce (0 : Int32) (upd w9 k9 (nearR (eN r2 (cCn k9 / 8) (cCn k9 % 8)) (r1 k9))) r1 r2 r3 dn ac sm) H := hP
            have hD : va_D A (mw y ce (0 : Int32) (upd w9 k9 (nearR (eN r2 (cCn k9 / 8) (cCn k9 % 8)) (r1 k9))) r1 r2 r3 dn ac sm) := hD
            refine lv_iload_n hx hb dX1_forward_91 rfl (lv_at hl 3 rfl) ?_
            refine lv_aload_n hx hb dX1_forward_92 rfl (lv_at hl 2 rfl) ?_
            refine va_get (D := D) (ci := 1) (v := .ref (y 1)) (C := RX1) (T := TX1) (N := 8) hx hb hts hin1 hown hK hP 0 rfl rfl 1 (by decide) hf7 (fun _ h9 => h9) rfl dX1_forward_93 ?_
            refine lv_iload_n hx hb dX1_forward_96 rfl (lv_at hl 4 rfl) ?_
            refine cx_iald hx hb hK hP 1 0 rfl rfl k9 (by omega) (by decide) dX1_forward_97 ?_
            refine cx_if_eq (i := ((upd w9 k9 (nearR (eN r2 (cCn k9 / 8) (cCn k9 % 8)) (r1 k9))) k9).toInt) (j := 0) (tgt := 105) hx hb rfl rfl dX1_forward_98 (by decide) (fun c_7 => ?_) (fun c_7 => ?_)
            · refine lv_iconst (v := (0 : Int32)) hx hb dX1_forward_105 (by decide +kernel) ?_
              refine lv_iadd hx hb dX1_forward_106 ?_
              refine lv_istore_n (lv' := [(1, .int ((cntI w9 k9) + (0 : Int32))), (5, .long (amtR (eN r2 (cCn k9 / 8) (cCn k9 % 8)) (r1 k9))), (3, .long (eN r2 (cCn k9 / 8) (cCn k9 % 8))), (0, .ref (y 0)), (2, .int (nI k9))]) hx hb dX1_forward_107 rfl hl (by decide) rfl (fun ls hl => ?_)
              refine lv_iinc (v := nI (k9 + 1)) (lv' := [(2, .int (nI (k9 + 1))), (1, .int ((cntI w9 k9) + (0 : Int32))), (5, .long (amtR (eN r2 (cCn k9 / 8) (cCn k9 % 8)) (r1 k9))), (3, .long (eN r2 (cCn k9 / 8) (cCn k9 % 8))), (0, .ref (y 0))]) hx hb dX1_forward_108 hl (k := 4) rfl (by show nI k9 + 1 = nI (k9 + 1); exact nI_add k9 1) (by decide) rfl (fun ls hl => ?_)
              refine lv_goto (tgt := 9) hx hb dX1_forward_111 (by decide) ?_
              have e_8 : (cntI w9 k9) + (0 : Int32) = cntI (upd w9 k9 (nearR (eN r2 (cCn k9 / 8) (cCn k9 % 8)) (r1 k9))) (k9 + 1) := cnt_upd_z c_7
              rw [e_8] at hl
              exact ih9 (k9 + 1) (upd w9 k9 (nearR (eN r2 (cCn k9 / 8) (cCn k9 % 8)) (r1 k9))) _ _ _ (by omega) (by omega) (upd_step (P := fun (j : Nat) (v : Int32) => v = nearR (eN r2 (cCn j / 8) (cCn j % 8)) (r1 j)) hw9 rfl) hP hD hS (lv_sub hl [4, 1, 0] rfl)
            · refine lv_iconst (v := (1 : Int32)) hx hb dX1_forward_101 (by decide +kernel) ?_
              refine lv_goto (tgt := 106) hx hb dX1_forward_102 (by decide) ?_
              refine lv_iadd hx hb dX1_forward_106 ?_
              refine lv_istore_n (lv' := [(1, .int ((cntI w9 k9) + (1 : Int32))), (5, .long (amtR (eN r2 (cCn k9 / 8) (cCn k9 % 8)) (r1 k9))), (3, .long (eN r2 (cCn k9 / 8) (cCn k9 % 8))), (0, .ref (y 0)), (2, .int (nI k9))]) hx hb dX1_forward_107 rfl hl (by decide) rfl (fun ls hl => ?_)
              refine lv_iinc (v := nI (k9 + 1)) (lv' := [(2, .int (nI (k9 + 1))), (1, .int ((cntI w9 k9) + (1 : Int32))), (5, .long (amtR (eN r2 (cCn k9 / 8) (cCn k9 % 8)) (r1 k9))), (3, .long (eN r2 (cCn k9 / 8) (cCn k9 % 8))), (0, .ref (y 0))]) hx hb dX1_forward_108 hl (k := 4) rfl (by show nI k9 + 1 = nI (k9 + 1); exact nI_add k9 1) (by decide) rfl (fun ls hl => ?_)
              refine lv_goto (tgt := 9) hx hb dX1_forward_111 (by decide) ?_
              have e_9 : (cntI w9 k9) + (1 : Int32) = cntI (upd w9 k9 (nearR (eN r2 (cCn k9 / 8) (cCn k9 % 8)) (r1 k9))) (k9 + 1) := cnt_upd_s c_7
              rw [e_9] at hl
              exact ih9 (k9 + 1) (upd w9 k9 (nearR (eN r2 (cCn k9 / 8) (cCn k9 % 8)) (r1 k9))) _ _ _ (by omega) (by omega) (upd_step (P := fun (j : Nat) (v : Int32) => v = nearR (eN r2 (cCn j / 8) (cCn j % 8)) (r1 j)) hw9 rfl) hP hD hS (lv_sub hl [4, 1, 0] rfl)
          refine lv_lload_n hx hb dX1_forward_75 rfl (lv_at hl 1 rfl) ?_
          refine lv_lconst (v := (0 : Int64)) hx hb dX1_forward_76 (by decide +kernel) ?_
          refine cx_lcmp_ge (i := (eN r2 (cCn k9 / 8) (cCn k9 % 8)).toInt) (j := 0) (tgt := 87) hx hb rfl (by decide +kernel) dX1_forward_77 dX1_forward_78 (by decide) (fun c_10 => ?_) (fun c_10 => ?_)
          · refine lv_lload hx hb dX1_forward_87 (lv_at hl 0 rfl) ?_
            exact J89 (amtR (eN r2 (cCn k9 / 8) (cCn k9 % 8)) (r1 k9)) (by rw [if_neg (by omega)])
          · refine lv_lload hx hb dX1_forward_81 (lv_at hl 0 rfl) ?_
            refine lv_lneg hx hb dX1_forward_83 ?_
            refine lv_goto (tgt := 89) hx hb dX1_forward_84 (by decide) ?_
            exact J89 (-(amtR (eN r2 (cCn k9 / 8) (cCn k9 % 8)) (r1 k9))) (by rw [if_pos (by omega)])
        refine lv_lload_n hx hb dX1_forward_32 rfl (lv_at hl 0 rfl) ?_
        refine lv_lconst (v := (0 : Int64)) hx hb dX1_forward_33 (by decide +kernel) ?_
        refine cx_lcmp_ge (i := (eN r2 (cCn k9 / 8) (cCn k9 % 8)).toInt) (j := 0) (tgt := 43) hx hb rfl (by decide +kernel) dX1_forward_34 dX1_forward_35 (by decide) (fun c_11 => ?_) (fun c_11 => ?_)
        · refine lv_lload_n hx hb dX1_forward_43 rfl (lv_at hl 0 rfl) ?_
          exact J44 (eN r2 (cCn k9 / 8) (cCn k9 % 8)) (by unfold abR; rw [if_neg (by omega)])
        · refine lv_lload_n hx hb dX1_forward_38 rfl (lv_at hl 0 rfl) ?_
          refine lv_lneg hx hb dX1_forward_39 ?_
          refine lv_goto (tgt := 44) hx hb dX1_forward_40 (by decide) ?_
          exact J44 (-(eN r2 (cCn k9 / 8) (cCn k9 % 8))) (by unfold abR; rw [if_pos (by omega)])
  exact L9 _ 0 r0 _ _ _ (Nat.lt_succ_self _) (Nat.zero_le _) (fun j hj => absurd hj (Nat.not_lt_zero j)) hP hD hS (lv_sub hl [2, 1, 0] rfl)
set_option maxHeartbeats 4000000 in
set_option maxRecDepth 100000 in
/-- the reference: back -/
theorem n_back (l : Launch) (D : va_G) (y : Nat → Nat) (ce : Nat → ClassId) (th : Int32) (r0 r1 r2 r3 dn ac : Nat → Int32) (sm : Nat → Int64) (hdn : dnOk dn ac) (q : Int32) (sz : Nat) : Met l yX1_back wsX1_back ({ frames := 3, cells := 0, slots := 0, locals := 70 } : Room) (va_Pc [.ref (y 0), .int q] (crw D (mw y ce th r0 r1 r2 r3 dn ac sm) (mty ce) sz)) (va_Ql (fun (r : Int64) (u9 : Int32 × (Nat → Int32) × (Nat → Int64)) => match u9 with | (t9, u, g8) => (t9 = 0 ∧ szOk q ∧ r = bG (cN (8 / q.toInt.toNat) q.toInt.toNat r0 r1) q.toInt.toNat q.toInt.toNat ∧ ∀ a b, a < 8 → b < 8 → u (a * 8 + b) = if a < q.toInt.toNat ∧ b < q.toInt.toNat then bS (8 / q.toInt.toNat) q.toInt.toNat (cN (8 / q.toInt.toNat) q.toInt.toNat r0 r1) a b else r2 (a * 8 + b)) ∨ (t9 = 1 ∧ ¬ szOk q ∧ u = r2)) (fun (u9 : Int32 × (Nat → Int32) × (Nat → Int64)) (t : State) => match u9 with | (t9, u, g8) => crB D (mw y ce t9 r0 r1 u r3 dn ac g8) (mty ce) (va_A (mw y ce th r0 r1 r2 r3 dn ac sm) sz) t) (va_A (mw y ce th r0 r1 r2 r3 dn ac sm) sz)) 0 0 (va_A (mw y ce th r0 r1 r2 r3 dn ac sm) sz) := by
  refine Met.ofW (cc := cX1_back) (maxL := 10) (ret := some .long) (by decide) rfl ?_
  intro p e s m args below meth c s₁ B hml hv
  obtain ⟨rfl, hsz, hP, hK, hD0, hTb⟩ := hv
  have hx := B.exec
  have hb := B.bytes
  have hr := B.returns
  have hts : ∀ w ∈ wA, w.before _ s = true := fun w h => atoms_spec (ws := wsX1_back) B.pre w (List.mem_cons_of_mem _ h)
  have hown : s.vm.findClass RX1 = some m.cls := findClass_of_methodNamed B.named
  have hlocks := B.notSynchronized
  subst hsz
  have hD := hD0.self (sz := s.heap.size)
  generalize hAe : va_A (mw y ce th r0 r1 r2 r3 dn ac sm) s.heap.size = A at hD hTb ⊢
  have hA : ∀ q : Nat, s.heap.size ≤ q → A q := fun q h => by rw [← hAe]; exact Or.inr h
  have hS : va_S A s.heap s.heap [] := va_S.rf
  have hin1 := inA1
  have hf32 := (hts _ wm_302)
  have hf28 := (hts _ wm_309)
  have hf16 := (hts _ wm_305)
  have hl := lv_entry ([.ref (y 0), .int q]) (n := 10) (Nat.le_of_ble_eq_true rfl)
  rw [lg_entry_eq]
  generalize (lg_sl ([.ref (y 0), .int q]) ++ List.replicate (10 - (lg_sl ([.ref (y 0), .int q])).length) Slot.unset).toArray = ls at hl ⊢
  have hl : lv_has ls 10 [(0, .ref (y 0)), (1, .int q)] := hl
  refine lv_aload_n hx hb dX1_back_0 rfl (lv_at hl 0 rfl) ?_
  refine lv_iload_n hx hb dX1_back_1 rfl (lv_at hl 1 rfl) ?_
  refine vp_callSi (W.runS (As := [.int q]) (rest := [.ref (y 0)]) ⟨hx, hb, hml, hown, hts⟩ (n_isSize l D q) (va_cwS 1 hts (gw_S wm_355 wm_356 wm_13 wm_357) rfl rfl rfl (by decide +kernel) ⟨Nat.le_of_ble_eq_true rfl, Nat.le_of_ble_eq_true rfl⟩) ⟨cro_blind, fun U hU hW => ⟨rfl, cro_at (hP.sub (ws' := []) [] rfl) (hK.sub (tys' := []) [] rfl) hTb hS hU hW⟩⟩ rfl rfl hl.1 rfl (lv_room (Nat.le_of_ble_eq_true rfl)) dX1_back_2 ⟨Nat.le_of_ble_eq_true rfl, Nat.le_of_ble_eq_true rfl⟩) (fun r_1 hr_1 => ?_)
  rcases hr_1 with ⟨rfl, hs9⟩ | ⟨rfl, hs9⟩
  · obtain ⟨nn, sp, heq9, hsz9⟩ := szOk_cases hs9
    obtain ⟨hbn, hbs, hbp, hq1, hq2, hq3⟩ := isSz_facts ⟨heq9, hsz9⟩
    have e_2 : q = nI nn := heq9
    rw [e_2] at hl
    refine cx_if_eq (i := 1) (j := 0) (tgt := 12) hx hb (by decide +kernel) rfl dX1_back_5 (by decide) (fun c_3 => absurd c_3 (by decide)) (fun c_3 => ?_)
    refine lv_iconst (v := (0 : Int32)) hx hb dX1_back_8 (by decide +kernel) ?_
    refine lv_goto (tgt := 13) hx hb dX1_back_9 (by decide) ?_
    refine va_put (D := D) (ci := 1) (v := .int (0 : Int32)) (ty := .int) (C := RX1) (T := TX1) (N := 8) hx hb hts hin1 tyX1 tyX1_ok nmX1 hown hK hP hD hS 0 rfl rfl 0 (by decide) hf32 (fun _ h9 => h9) rfl (by decide +kernel) rfl rfl (Nat.le_of_ble_eq_true rfl) dX1_back_13 (fun H locs hP hD hS => ?_)
    have hP : va_P D vwCl (mw y ce (0 : Int32) r0 r1 r2 r3 dn ac sm) H := hP
    have hD : va_D A (mw y ce (0 : Int32) r0 r1 r2 r3 dn ac sm) := hD
    refine lv_aload_n hx hb dX1_back_16 rfl (lv_at hl 0 rfl) ?_
    refine va_get (D := D) (ci := 1) (v := .int (0 : Int32)) (C := RX1) (T := TX1) (N := 8) hx hb hts hin1 hown hK hP 0 rfl rfl 0 (by decide) hf32 (fun _ h9 => h9) rfl dX1_back_17 ?_
    refine cx_if_le (i := 0) (j := 0) (tgt := 25) hx hb (by decide +kernel) rfl dX1_back_20 (by decide) (fun c_4 => ?_) (fun c_4 => absurd c_4 (by decide))
    refine lv_lconst (v := (0 : Int64)) hx hb dX1_back_25 (by decide +kernel) ?_
    refine lv_lstore_n (lv' := [(2, .long (0 : Int64)), (0, .ref (y 0)), (1, .int (nI nn))]) hx hb dX1_back_26 rfl hl (by decide) rfl (fun ls hl => ?_)
    refine lv_iconst (v := (0 : Int32)) hx hb dX1_back_27 (by decide +kernel) ?_
    refine lv_istore (lv' := [(4, .int (0 : Int32)), (2, .long (0 : Int64)), (0, .ref (y 0)), (1, .int (nI nn))]) hx hb dX1_back_28 hl (by decide) rfl (fun ls hl => ?_)
    have L30 : ∀ (n : Nat) (y9 : Nat) (w9 : Nat → Int64) (H : Heap) (locs : List Loc) (ls : Array Slot), (nn - y9) < n → (y9 ≤ nn) → (∀ a b, a < y9 → b < nn → w9 (a * 8 + b) = cN sp nn r0 r1 a b) → va_P D vwCl (mw y ce (0 : Int32) r0 r1 r2 r3 dn ac w9) H → va_D A (mw y ce (0 : Int32) r0 r1 r2 r3 dn ac w9) → va_S A s.heap H locs → lv_has ls 10 [(0, .ref (y 0)), (1, .int (nI nn)), (2, .long (bG (cN sp nn r0 r1) nn y9)), (4, .int (nI y9))] → W p l e ((headSpec wsX1_back ({ frames := 3, cells := 0, slots := 0, locals := 70 } : Room)).room) s m (([.ref (y 0), .int q] : List Value).toArray) below meth c H locs 0 0 (MQ below (va_Ql (fun (r : Int64) (u9 : Int32 × (Nat → Int32) × (Nat → Int64)) => match u9 with | (t9, u, g8) => (t9 = 0 ∧ szOk q ∧ r = bG (cN (8 / q.toInt.toNat) q.toInt.toNat r0 r1) q.toInt.toNat q.toInt.toNat ∧ ∀ a b, a < 8 → b < 8 → u (a * 8 + b) = if a < q.toInt.toNat ∧ b < q.toInt.toNat then bS (8 / q.toInt.toNat) q.toInt.toNat (cN (8 / q.toInt.toNat) q.toInt.toNat r0 r1) a b else r2 (a * 8 + b)) ∨ (t9 = 1 ∧ ¬ szOk q ∧ u = r2)) (fun (u9 : Int32 × (Nat → Int32) × (Nat → Int64)) (t : State) => match u9 with | (t9, u, g8) => crB D (mw y ce t9 r0 r1 u r3 dn ac g8) (mty ce) A t) A) ([.ref (y 0), .int q] : List Value).toArray s 0 0 A) (F0 m 30 ls []) := by
      intro n
      induction n with
      | zero =>
        intro y9 w9 H locs ls hn
        exact absurd hn (Nat.not_lt_zero _)
      | succ n ih30 =>
        intro y9 w9 H locs ls hn30 hy9 hw9 hP hD hS hl
        refine lv_iload hx hb dX1_back_30 (lv_at hl 3 rfl) ?_
        refine lv_iload_n hx hb dX1_back_32 rfl (lv_at hl 1 rfl) ?_
        refine cx_icmp_ge (i := ((y9 : Nat) : Int)) (j := ((nn : Nat) : Int)) (tgt := 111) hx hb (nI_toInt (by omega)) (nI_toInt (by omega)) dX1_back_33 (by decide) (fun c_5 => ?_) (fun c_5 => ?_)
        · have hyn : y9 = nn := by omega
          have hsm : ∀ a b, a < nn → b < nn → w9 (a * 8 + b) = cN sp nn r0 r1 a b := fun a b ha9 hb9 => hw9 a b (by omega) hb9
          have e_6 : bG (cN sp nn r0 r1) nn y9 = bG (cN sp nn r0 r1) nn nn := by rw [hyn]
          rw [e_6] at hl
          refine lv_iconst (v := (0 : Int32)) hx hb dX1_back_111 (by decide +kernel) ?_
          refine lv_istore (lv' := [(4, .int (0 : Int32)), (0, .ref (y 0)), (1, .int (nI nn)), (2, .long (bG (cN sp nn r0 r1) nn nn))]) hx hb dX1_back_112 hl (by decide) rfl (fun ls hl => ?_)
          have L114 : ∀ (n : Nat) (y9 : Nat) (v8 : Nat → Int32) (H : Heap) (locs : List Loc) (ls : Array Slot), (nn - y9) < n → (y9 ≤ nn) → (∀ a b, a < 8 → b < 8 → v8 (a * 8 + b) = if a < y9 ∧ b < nn then bS sp nn (cN sp nn r0 r1) a b else r2 (a * 8 + b)) → va_P D vwCl (mw y ce (0 : Int32) r0 r1 v8 r3 dn ac w9) H → va_D A (mw y ce (0 : Int32) r0 r1 v8 r3 dn ac w9) → va_S A s.heap H locs → lv_has ls 10 [(0, .ref (y 0)), (1, .int (nI nn)), (2, .long (bG (cN sp nn r0 r1) nn nn)), (4, .int (nI y9))] → W p l e ((headSpec wsX1_back ({ frames := 3, cells := 0, slots := 0, locals := 70 } : Room)).room) s m (([.ref (y 0), .int q] : List Value).toArray) below meth c H locs 0 0 (MQ below (va_Ql (fun (r : Int64) (u9 : Int32 × (Nat → Int32) × (Nat → Int64)) => match u9 with | (t9, u, g8) => (t9 = 0 ∧ szOk q ∧ r = bG (cN (8 / q.toInt.toNat) q.toInt.toNat r0 r1) q.toInt.toNat q.toInt.toNat ∧ ∀ a b, a < 8 → b < 8 → u (a * 8 + b) = if a < q.toInt.toNat ∧ b < q.toInt.toNat then bS (8 / q.toInt.toNat) q.toInt.toNat (cN (8 / q.toInt.toNat) q.toInt.toNat r0 r1) a b else r2 (a * 8 + b)) ∨ (t9 = 1 ∧ ¬ szOk q ∧ u = r2)) (fun (u9 : Int32 × (Nat → Int32) × (Nat → Int64)) (t : State) => match u9 with | (t9, u, g8) => crB D (mw y ce t9 r0 r1 u r3 dn ac g8) (mty ce) A t) A) ([.ref (y 0), .int q] : List Value).toArray s 0 0 A) (F0 m 114 ls []) := by
            intro n
            induction n with
            | zero =>
              intro y9 v8 H locs ls hn
              exact absurd hn (Nat.not_lt_zero _)
            | succ n ih114 =>
              intro y9 v8 H locs ls hn114 hy8 hw8 hP hD hS hl
              refine lv_iload hx hb dX1_back_114 (lv_at hl 3 rfl) ?_
              refine lv_iload_n hx hb dX1_back_116 rfl (lv_at hl 1 rfl) ?_
              refine cx_icmp_ge (i := ((y9 : Nat) : Int)) (j := ((nn : Nat) : Int)) (tgt := 242) hx hb (nI_toInt (by omega)) (nI_toInt (by omega)) dX1_back_117 (by decide) (fun c_7 => ?_) (fun c_7 => ?_)
              · refine lv_lload_n hx hb dX1_back_242 rfl (lv_at hl 2 rfl) ?_
                exact W.lret (v := bG (cN sp nn r0 r1) nn nn) hx hb hr (fun t ht hW => ⟨⟨bG (cN sp nn r0 r1) nn nn, ((0 : Int32), v8, w9), rfl, (by
                                           obtain rfl : nn = y9 := by omega
                                           refine Or.inl ⟨rfl, hq3, ?_, ?_⟩
                                           · rw [hq1, hq2]
                                           · rw [hq1, hq2]; exact hw8), by rw [ht]; exact hP, va_K.moved hW.alike hK, hD⟩, hS.F ht⟩) hS.2.2 dX1_back_243
              · refine lv_iconst (v := (0 : Int32)) hx hb dX1_back_120 (by decide +kernel) ?_
                refine lv_istore (lv' := [(5, .int (0 : Int32)), (0, .ref (y 0)), (1, .int (nI nn)), (2, .long (bG (cN sp nn r0 r1) nn nn)), (4, .int (nI y9))]) hx hb dX1_back_121 hl (by decide) rfl (fun ls hl => ?_)
                have L123 : ∀ (n : Nat) (x9 : Nat) (v8 : Nat → Int32) (H : Heap) (locs : List Loc) (ls : Array Slot), (nn - x9) < n → (x9 ≤ nn) → (∀ a b, a < 8 → b < 8 → v8 (a * 8 + b) = if (a < y9 ∧ b < nn) ∨ (a = y9 ∧ b < x9) then bS sp nn (cN sp nn r0 r1) a b else r2 (a * 8 + b)) → va_P D vwCl (mw y ce (0 : Int32) r0 r1 v8 r3 dn ac w9) H → va_D A (mw y ce (0 : Int32) r0 r1 v8 r3 dn ac w9) → va_S A s.heap H locs → lv_has ls 10 [(0, .ref (y 0)), (1, .int (nI nn)), (2, .long (bG (cN sp nn r0 r1) nn nn)), (4, .int (nI y9)), (5, .int (nI x9))] → W p l e ((headSpec wsX1_back ({ frames := 3, cells := 0, slots := 0, locals := 70 } : Room)).room) s m (([.ref (y 0), .int q] : List Value).toArray) below meth c H locs 0 0 (MQ below (va_Ql (fun (r : Int64) (u9 : Int32 × (Nat → Int32) × (Nat → Int64)) => match u9 with | (t9, u, g8) => (t9 = 0 ∧ szOk q ∧ r = bG (cN (8 / q.toInt.toNat) q.toInt.toNat r0 r1) q.toInt.toNat q.toInt.toNat ∧ ∀ a b, a < 8 → b < 8 → u (a * 8 + b) = if a < q.toInt.toNat ∧ b < q.toInt.toNat then bS (8 / q.toInt.toNat) q.toInt.toNat (cN (8 / q.toInt.toNat) q.toInt.toNat r0 r1) a b else r2 (a * 8 + b)) ∨ (t9 = 1 ∧ ¬ szOk q ∧ u = r2)) (fun (u9 : Int32 × (Nat → Int32) × (Nat → Int64)) (t : State) => match u9 with | (t9, u, g8) => crB D (mw y ce t9 r0 r1 u r3 dn ac g8) (mty ce) A t) A) ([.ref (y 0), .int q] : List Value).toArray s 0 0 A) (F0 m 123 ls []) := by
                  intro n
                  induction n with
                  | zero =>
                    intro x9 v8 H locs ls hn
                    exact absurd hn (Nat.not_lt_zero _)
                  | succ n ih123 =>
                    intro x9 v8 H locs ls hn123 hx9 hv8 hP hD hS hl
                    refine lv_iload hx hb dX1_back_123 (lv_at hl 4 rfl) ?_
                    refine lv_iload_n hx hb dX1_back_125 rfl (lv_at hl 1 rfl) ?_
                    refine cx_icmp_ge (i := ((x9 : Nat) : Int)) (j := ((nn : Nat) : Int)) (tgt := 236) hx hb (nI_toInt (by omega)) (nI_toInt (by omega)) dX1_back_126 (by decide) (fun c_8 => ?_) (fun c_8 => ?_)
                    · refine lv_iinc (v := nI (y9 + 1)) (lv' := [(4, .int (nI (y9 + 1))), (0, .ref (y 0)), (1, .int (nI nn)), (2, .long (bG (cN sp nn r0 r1) nn nn)), (5, .int (nI x9))]) hx hb dX1_back_236 hl (k := 3) rfl (by show nI y9 + 1 = nI (y9 + 1); exact nI_add y9 1) (by decide) rfl (fun ls hl => ?_)
                      refine lv_goto (tgt := 114) hx hb dX1_back_239 (by decide) ?_
                      exact ih114 (y9 + 1) v8 _ _ _ (by omega) (by omega) (by
                          intro a b ha9 hb9
                          rw [hv8 a b ha9 hb9]
                          by_cases hq : (a < y9 ∧ b < nn) ∨ (a = y9 ∧ b < x9)
                          · rw [if_pos hq, if_pos (by omega)]
                          · rw [if_neg hq, if_neg (by omega)]) hP hD hS (lv_sub hl [1, 2, 3, 0] rfl)
                    · refine lv_lconst (v := (0 : Int64)) hx hb dX1_back_129 (by decide +kernel) ?_
                      refine lv_lstore (lv' := [(6, .long (0 : Int64)), (0, .ref (y 0)), (1, .int (nI nn)), (2, .long (bG (cN sp nn r0 r1) nn nn)), (4, .int (nI y9)), (5, .int (nI x9))]) hx hb dX1_back_130 hl (by decide) rfl (fun ls hl => ?_)
                      refine lv_iconst (v := (0 : Int32)) hx hb dX1_back_132 (by decide +kernel) ?_
                      refine lv_istore (lv' := [(8, .int (0 : Int32)), (6, .long (0 : Int64)), (0, .ref (y 0)), (1, .int (nI nn)), (2, .long (bG (cN sp nn r0 r1) nn nn)), (4, .int (nI y9)), (5, .int (nI x9))]) hx hb dX1_back_133 hl (by decide) rfl (fun ls hl => ?_)
                      have L135 : ∀ (n : Nat) (u9 : Nat) (H : Heap) (locs : List Loc) (ls : Array Slot), (nn - u9) < n → (u9 ≤ nn) → va_P D vwCl (mw y ce (0 : Int32) r0 r1 v8 r3 dn ac w9) H → va_D A (mw y ce (0 : Int32) r0 r1 v8 r3 dn ac w9) → va_S A s.heap H locs → lv_has ls 10 [(0, .ref (y 0)), (1, .int (nI nn)), (2, .long (bG (cN sp nn r0 r1) nn nn)), (4, .int (nI y9)), (5, .int (nI x9)), (6, .long (sumL (fun u9 => (wvN sp u9 x9).toInt64 * cN sp nn r0 r1 y9 u9) u9)), (8, .int (nI u9))] → W p l e ((headSpec wsX1_back ({ frames := 3, cells := 0, slots := 0, locals := 70 } : Room)).room) s m (([.ref (y 0), .int q] : List Value).toArray) below meth c H locs 0 0 (MQ below (va_Ql (fun (r : Int64) (u9 : Int32 × (Nat → Int32) × (Nat → Int64)) => match u9 with | (t9, u, g8) => (t9 = 0 ∧ szOk q ∧ r = bG (cN (8 / q.toInt.toNat) q.toInt.toNat r0 r1) q.toInt.toNat q.toInt.toNat ∧ ∀ a b, a < 8 → b < 8 → u (a * 8 + b) = if a < q.toInt.toNat ∧ b < q.toInt.toNat then bS (8 / q.toInt.toNat) q.toInt.toNat (cN (8 / q.toInt.toNat) q.toInt.toNat r0 r1) a b else r2 (a * 8 + b)) ∨ (t9 = 1 ∧ ¬ szOk q ∧ u = r2)) (fun (u9 : Int32 × (Nat → Int32) × (Nat → Int64)) (t : State) => match u9 with | (t9, u, g8) => crB D (mw y ce t9 r0 r1 u r3 dn ac g8) (mty ce) A t) A) ([.ref (y 0), .int q] : List Value).toArray s 0 0 A) (F0 m 135 ls []) := by
                        intro n
                        induction n with
                        | zero =>
                          intro u9 H locs ls hn
                          exact absurd hn (Nat.not_lt_zero _)
                        | succ n ih135 =>
                          intro u9 H locs ls hn135 hu8 hP hD hS hl
                          refine lv_iload hx hb dX1_back_135 (lv_at hl 6 rfl) ?_
                          refine lv_iload_n hx hb dX1_back_137 rfl (lv_at hl 1 rfl) ?_
                          refine cx_icmp_ge (i := ((u9 : Nat) : Int)) (j := ((nn : Nat) : Int)) (tgt := 175) hx hb (nI_toInt (by omega)) (nI_toInt (by omega)) dX1_back_138 (by decide) (fun c_9 => ?_) (fun c_9 => ?_)
                          · have hun : u9 = nn := by omega
                            have e_10 : sumL (fun u9 => (wvN sp u9 x9).toInt64 * cN sp nn r0 r1 y9 u9) u9 = sumL (fun u9 => (wvN sp u9 x9).toInt64 * cN sp nn r0 r1 y9 u9) nn := by rw [hun]
                            rw [e_10] at hl
                            refine lv_lload hx hb dX1_back_175 (lv_at hl 5 rfl) ?_
                            refine lv_bipush (v := (17 : Int32)) hx hb dX1_back_177 (by decide +kernel) ?_
                            refine vp_callSl (W.runS (As := [.long (sumL (fun u9 => (wvN sp u9 x9).toInt64 * cN sp nn r0 r1 y9 u9) nn), .int (17 : Int32)]) (rest := []) ⟨hx, hb, hml, hown, hts⟩ (n_round l D (sumL (fun u9 => (wvN sp u9 x9).toInt64 * cN sp nn r0 r1 y9 u9) nn) (17 : Int32)) (va_cwS 2 hts (gw_S wm_372 wm_373 wm_13 wm_374) rfl rfl rfl (by decide +kernel) ⟨Nat.le_of_ble_eq_true rfl, Nat.le_of_ble_eq_true rfl⟩) ⟨cro_blind, fun U hU hW => ⟨rfl, cro_at (hP.sub (ws' := []) [] rfl) (hK.sub (tys' := []) [] rfl) hTb hS hU hW⟩⟩ rfl rfl hl.1 rfl (lv_room (Nat.le_of_ble_eq_true rfl)) dX1_back_179 ⟨Nat.le_of_ble_eq_true rfl, Nat.le_of_ble_eq_true rfl⟩) (fun r_11 hr_11 => ?_)
                            rw [hr_11]
                            refine lv_ldc2 (v := (128 : Int64)) hx hb hown (hts _ wm_375) dX1_back_182 ?_
                            refine lv_ladd hx hb dX1_back_185 ?_
                            refine lv_lstore (lv' := [(8, .long ((rdL (sumL (fun u9 => (wvN sp u9 x9).toInt64 * cN sp nn r0 r1 y9 u9) nn) (17 : Int32)) + (128 : Int64))), (0, .ref (y 0)), (1, .int (nI nn)), (2, .long (bG (cN sp nn r0 r1) nn nn)), (4, .int (nI y9)), (5, .int (nI x9)), (6, .long (sumL (fun u9 => (wvN sp u9 x9).toInt64 * cN sp nn r0 r1 y9 u9) nn))]) hx hb dX1_back_186 hl (by decide) rfl (fun ls hl => ?_)
                            refine lv_aload_n hx hb dX1_back_188 rfl (lv_at hl 1 rfl) ?_
                            refine va_get (D := D) (ci := 1) (v := .ref (y 3)) (C := RX1) (T := TX1) (N := 8) hx hb hts hin1 hown hK hP 0 rfl rfl 3 (by decide) hf16 (fun _ h9 => h9) rfl dX1_back_189 ?_
                            refine lv_bipush (v := (8 : Int32)) hx hb dX1_back_192 (by decide +kernel) ?_
                            refine lv_iload hx hb dX1_back_194 (lv_at hl 4 rfl) ?_
                            refine cx_imul hx hb 8 y9 dX1_back_196 ?_
                            refine lv_iload hx hb dX1_back_197 (lv_at hl 5 rfl) ?_
                            refine cx_iadd hx hb (8 * y9) x9 dX1_back_199 ?_
                            rw [show 8 * y9 + x9 = y9 * 8 + x9 from by omega]
                            have J229 : ∀ (tc : Int32), (tc = clampV ((rdL (sumL (fun u9 => (wvN sp u9 x9).toInt64 * cN sp nn r0 r1 y9 u9) nn) (17 : Int32)) + (128 : Int64)) 0 255) → W p l e ((headSpec wsX1_back ({ frames := 3, cells := 0, slots := 0, locals := 70 } : Room)).room) s m (([.ref (y 0), .int q] : List Value).toArray) below meth c H locs 0 0 (MQ below (va_Ql (fun (r : Int64) (u9 : Int32 × (Nat → Int32) × (Nat → Int64)) => match u9 with | (t9, u, g8) => (t9 = 0 ∧ szOk q ∧ r = bG (cN (8 / q.toInt.toNat) q.toInt.toNat r0 r1) q.toInt.toNat q.toInt.toNat ∧ ∀ a b, a < 8 → b < 8 → u (a * 8 + b) = if a < q.toInt.toNat ∧ b < q.toInt.toNat then bS (8 / q.toInt.toNat) q.toInt.toNat (cN (8 / q.toInt.toNat) q.toInt.toNat r0 r1) a b else r2 (a * 8 + b)) ∨ (t9 = 1 ∧ ¬ szOk q ∧ u = r2)) (fun (u9 : Int32 × (Nat → Int32) × (Nat → Int64)) (t : State) => match u9 with | (t9, u, g8) => crB D (mw y ce t9 r0 r1 u r3 dn ac g8) (mty ce) A t) A) ([.ref (y 0), .int q] : List Value).toArray s 0 0 A) (F0 m 229 ls [.int tc, .int (nI (y9 * 8 + x9)), .ref (y 3)]) := by
                              intro tc hcl
                              refine cx_iast hx hb hK hP hD hS 3 2 rfl rfl (y9 * 8 + x9) (by omega) (by decide) dX1_back_229 (fun H locs hP hD hS => ?_)
                              have hP : va_P D vwCl (mw y ce (0 : Int32) r0 r1 (upd v8 (y9 * 8 + x9) tc) r3 dn ac w9) H := hP
                              have hD : va_D A (mw y ce (0 : Int32) r0 r1 (upd v8 (y9 * 8 + x9) tc) r3 dn ac w9) := hD
                              refine lv_iinc (v := nI (x9 + 1)) (lv' := [(5, .int (nI (x9 + 1))), (8, .long ((rdL (sumL (fun u9 => (wvN sp u9 x9).toInt64 * cN sp nn r0 r1 y9 u9) nn) (17 : Int32)) + (128 : Int64))), (0, .ref (y 0)), (1, .int (nI nn)), (2, .long (bG (cN sp nn r0 r1) nn nn)), (4, .int (nI y9)), (6, .long (sumL (fun u9 => (wvN sp u9 x9).toInt64 * cN sp nn r0 r1 y9 u9) nn))]) hx hb dX1_back_230 hl (k := 5) rfl (by show nI x9 + 1 = nI (x9 + 1); exact nI_add x9 1) (by decide) rfl (fun ls hl => ?_)
                              refine lv_goto (tgt := 123) hx hb dX1_back_233 (by decide) ?_
                              exact ih123 (x9 + 1) (upd v8 (y9 * 8 + x9) tc) _ _ _ (by omega) (by omega) (by
                                  intro a b ha9 hb9
                                  by_cases hq : a * 8 + b = y9 * 8 + x9
                                  · obtain rfl : y9 = a := by omega
                                    obtain rfl : x9 = b := by omega
                                    rw [if_pos (by omega)]; exact pk_us.trans hcl
                                  · rw [pk_un hq, hv8 a b ha9 hb9]
                                    by_cases hz : (a < y9 ∧ b < nn) ∨ (a = y9 ∧ b < x9)
                                    · rw [if_pos hz, if_pos (by omega)]
                                    · rw [if_neg hz, if_neg (by omega)]) hP hD hS (lv_sub hl [2, 3, 4, 5, 0] rfl)
                            refine lv_lload hx hb dX1_back_200 (lv_at hl 0 rfl) ?_
                            refine lv_lconst (v := (0 : Int64)) hx hb dX1_back_202 (by decide +kernel) ?_
                            refine cx_lcmp_ge (i := ((rdL (sumL (fun u9 => (wvN sp u9 x9).toInt64 * cN sp nn r0 r1 y9 u9) nn) (17 : Int32)) + (128 : Int64)).toInt) (j := 0) (tgt := 211) hx hb rfl (by decide +kernel) dX1_back_203 dX1_back_204 (by decide) (fun c_12 => ?_) (fun c_12 => ?_)
                            · refine lv_lload hx hb dX1_back_211 (lv_at hl 0 rfl) ?_
                              refine lv_ldc2 (v := (255 : Int64)) hx hb hown (hts _ wm_350) dX1_back_213 ?_
                              refine cx_lcmp_le (i := ((rdL (sumL (fun u9 => (wvN sp u9 x9).toInt64 * cN sp nn r0 r1 y9 u9) nn) (17 : Int32)) + (128 : Int64)).toInt) (j := 255) (tgt := 226) hx hb rfl (by decide +kernel) dX1_back_216 dX1_back_217 (by decide) (fun c_13 => ?_) (fun c_13 => ?_)
                              · refine lv_lload hx hb dX1_back_226 (lv_at hl 0 rfl) ?_
                                refine lv_l2i hx hb dX1_back_228 rfl ?_
                                exact J229 (((rdL (sumL (fun u9 => (wvN sp u9 x9).toInt64 * cN sp nn r0 r1 y9 u9) nn) (17 : Int32)) + (128 : Int64)).toInt32) (by unfold clampV; rw [cx_i0, cx_i255, if_neg (by omega), if_neg (by omega)])
                              · refine lv_sipush (v := (255 : Int32)) hx hb dX1_back_220 (by decide +kernel) ?_
                                refine lv_goto (tgt := 229) hx hb dX1_back_223 (by decide) ?_
                                exact J229 (255 : Int32) (by unfold clampV; rw [cx_i0, cx_i255, if_neg (by omega), if_pos (by omega)])
                            · refine lv_iconst (v := (0 : Int32)) hx hb dX1_back_207 (by decide +kernel) ?_
                              refine lv_goto (tgt := 229) hx hb dX1_back_208 (by decide) ?_
                              exact J229 (0 : Int32) (by unfold clampV; rw [cx_i0, cx_i255, if_pos (by omega)])
                          · refine lv_lload hx hb dX1_back_141 (lv_at hl 5 rfl) ?_
                            refine lv_iload_n hx hb dX1_back_143 rfl (lv_at hl 1 rfl) ?_
                            refine lv_iload hx hb dX1_back_144 (lv_at hl 6 rfl) ?_
                            refine lv_iload hx hb dX1_back_146 (lv_at hl 4 rfl) ?_
                            refine vp_callSi (W.runS (As := [.int (nI nn), .int (nI u9), .int (nI x9)]) (rest := [.long (sumL (fun u9 => (wvN sp u9 x9).toInt64 * cN sp nn r0 r1 y9 u9) u9)]) ⟨hx, hb, hml, hown, hts⟩ (n_waveOf l D nn sp u9 x9 (by omega) hsz9 (by omega) (by omega)) (va_cwS 3 hts (gw_S wm_366 wm_367 wm_13 wm_368) rfl rfl rfl (by decide +kernel) ⟨Nat.le_of_ble_eq_true rfl, Nat.le_of_ble_eq_true rfl⟩) ⟨cro_blind, fun U hU hW => ⟨rfl, cro_at (hP.sub (ws' := []) [] rfl) (hK.sub (tys' := []) [] rfl) hTb hS hU hW⟩⟩ rfl rfl hl.1 rfl (lv_room (Nat.le_of_ble_eq_true rfl)) dX1_back_148 ⟨Nat.le_of_ble_eq_true rfl, Nat.le_of_ble_eq_true rfl⟩) (fun r_14 hr_14 => ?_)
                            rw [hr_14]
                            refine lv_i2l hx hb dX1_back_151 rfl ?_
                            refine lv_aload_n hx hb dX1_back_152 rfl (lv_at hl 0 rfl) ?_
                            refine va_get (D := D) (ci := 1) (v := .ref (y 7)) (C := RX1) (T := TX1) (N := 8) hx hb hts hin1 hown hK hP 0 rfl rfl 7 (by decide) hf28 (fun _ h9 => h9) rfl dX1_back_153 ?_
                            refine lv_bipush (v := (8 : Int32)) hx hb dX1_back_156 (by decide +kernel) ?_
                            refine lv_iload hx hb dX1_back_158 (lv_at hl 3 rfl) ?_
                            refine cx_imul hx hb 8 y9 dX1_back_160 ?_
                            refine lv_iload hx hb dX1_back_161 (lv_at hl 6 rfl) ?_
                            refine cx_iadd hx hb (8 * y9) u9 dX1_back_163 ?_
                            rw [show 8 * y9 + u9 = y9 * 8 + u9 from by omega]
                            refine cx_lald hx hb hK hP 7 6 rfl rfl (y9 * 8 + u9) (by omega) (by decide) dX1_back_164 ?_
                            have e_15 : w9 (y9 * 8 + u9) = cN sp nn r0 r1 y9 u9 := hsm y9 u9 (by omega) (by omega)
                            rw [e_15]
                            refine lv_lmul hx hb dX1_back_165 ?_
                            refine lv_ladd hx hb dX1_back_166 ?_
                            refine lv_lstore (lv' := [(6, .long ((sumL (fun u9 => (wvN sp u9 x9).toInt64 * cN sp nn r0 r1 y9 u9) u9) + (((wvN sp u9 x9).toInt64) * (cN sp nn r0 r1 y9 u9)))), (0, .ref (y 0)), (1, .int (nI nn)), (2, .long (bG (cN sp nn r0 r1) nn nn)), (4, .int (nI y9)), (5, .int (nI x9)), (8, .int (nI u9))]) hx hb dX1_back_167 hl (by decide) rfl (fun ls hl => ?_)
                            refine lv_iinc (v := nI (u9 + 1)) (lv' := [(8, .int (nI (u9 + 1))), (6, .long ((sumL (fun u9 => (wvN sp u9 x9).toInt64 * cN sp nn r0 r1 y9 u9) u9) + (((wvN sp u9 x9).toInt64) * (cN sp nn r0 r1 y9 u9)))), (0, .ref (y 0)), (1, .int (nI nn)), (2, .long (bG (cN sp nn r0 r1) nn nn)), (4, .int (nI y9)), (5, .int (nI x9))]) hx hb dX1_back_169 hl (k := 6) rfl (by show nI u9 + 1 = nI (u9 + 1); exact nI_add u9 1) (by decide) rfl (fun ls hl => ?_)
                            refine lv_goto (tgt := 135) hx hb dX1_back_172 (by decide) ?_
                            exact ih135 (u9 + 1) _ _ _ (by omega) (by omega) hP hD hS (lv_sub hl [2, 3, 4, 5, 6, 1, 0] rfl)
                      exact L135 _ 0 _ _ _ (Nat.lt_succ_self _) (Nat.zero_le _) hP hD hS (lv_sub hl [2, 3, 4, 5, 6, 1, 0] rfl)
                exact L123 _ 0 v8 _ _ _ (Nat.lt_succ_self _) (Nat.zero_le _) (by
                intro a b ha9 hb9
                rw [hw8 a b ha9 hb9]
                by_cases hq : a < y9 ∧ b < nn
                · rw [if_pos hq, if_pos (by omega)]
                · rw [if_neg hq, if_neg (by omega)]) hP hD hS (lv_sub hl [1, 2, 3, 4, 0] rfl)
          exact L114 _ 0 r2 _ _ _ (Nat.lt_succ_self _) (Nat.zero_le _) (fun a b _ _ => by rw [if_neg (by omega)]) hP hD hS (lv_sub hl [1, 2, 3, 0] rfl)
        · refine lv_iconst (v := (0 : Int32)) hx hb dX1_back_36 (by decide +kernel) ?_
          refine lv_istore (lv' := [(5, .int (0 : Int32)), (0, .ref (y 0)), (1, .int (nI nn)), (2, .long (bG (cN sp nn r0 r1) nn y9)), (4, .int (nI y9))]) hx hb dX1_back_37 hl (by decide) rfl (fun ls hl => ?_)
          have L39 : ∀ (n : Nat) (u9 : Nat) (w9 : Nat → Int64) (H : Heap) (locs : List Loc) (ls : Array Slot), (nn - u9) < n → (u9 ≤ nn) → (∀ a b, (a < y9 ∨ (a = y9 ∧ b < u9)) → b < nn → w9 (a * 8 + b) = cN sp nn r0 r1 a b) → va_P D vwCl (mw y ce (0 : Int32) r0 r1 r2 r3 dn ac w9) H → va_D A (mw y ce (0 : Int32) r0 r1 r2 r3 dn ac w9) → va_S A s.heap H locs → lv_has ls 10 [(0, .ref (y 0)), (1, .int (nI nn)), (2, .long (bG1 (cN sp nn r0 r1) y9 (bG (cN sp nn r0 r1) nn y9) u9)), (4, .int (nI y9)), (5, .int (nI u9))] → W p l e ((headSpec wsX1_back ({ frames := 3, cells := 0, slots := 0, locals := 70 } : Room)).room) s m (([.ref (y 0), .int q] : List Value).toArray) below meth c H locs 0 0 (MQ below (va_Ql (fun (r : Int64) (u9 : Int32 × (Nat → Int32) × (Nat → Int64)) => match u9 with | (t9, u, g8) => (t9 = 0 ∧ szOk q ∧ r = bG (cN (8 / q.toInt.toNat) q.toInt.toNat r0 r1) q.toInt.toNat q.toInt.toNat ∧ ∀ a b, a < 8 → b < 8 → u (a * 8 + b) = if a < q.toInt.toNat ∧ b < q.toInt.toNat then bS (8 / q.toInt.toNat) q.toInt.toNat (cN (8 / q.toInt.toNat) q.toInt.toNat r0 r1) a b else r2 (a * 8 + b)) ∨ (t9 = 1 ∧ ¬ szOk q ∧ u = r2)) (fun (u9 : Int32 × (Nat → Int32) × (Nat → Int64)) (t : State) => match u9 with | (t9, u, g8) => crB D (mw y ce t9 r0 r1 u r3 dn ac g8) (mty ce) A t) A) ([.ref (y 0), .int q] : List Value).toArray s 0 0 A) (F0 m 39 ls []) := by
            intro n
            induction n with
            | zero =>
              intro u9 w9 H locs ls hn
              exact absurd hn (Nat.not_lt_zero _)
            | succ n ih39 =>
              intro u9 w9 H locs ls hn39 hu9 hv9 hP hD hS hl
              refine lv_iload hx hb dX1_back_39 (lv_at hl 4 rfl) ?_
              refine lv_iload_n hx hb dX1_back_41 rfl (lv_at hl 1 rfl) ?_
              refine cx_icmp_ge (i := ((u9 : Nat) : Int)) (j := ((nn : Nat) : Int)) (tgt := 105) hx hb (nI_toInt (by omega)) (nI_toInt (by omega)) dX1_back_42 (by decide) (fun c_16 => ?_) (fun c_16 => ?_)
              · refine lv_iinc (v := nI (y9 + 1)) (lv' := [(4, .int (nI (y9 + 1))), (0, .ref (y 0)), (1, .int (nI nn)), (2, .long (bG1 (cN sp nn r0 r1) y9 (bG (cN sp nn r0 r1) nn y9) u9)), (5, .int (nI u9))]) hx hb dX1_back_105 hl (k := 3) rfl (by show nI y9 + 1 = nI (y9 + 1); exact nI_add y9 1) (by decide) rfl (fun ls hl => ?_)
                refine lv_goto (tgt := 30) hx hb dX1_back_108 (by decide) ?_
                obtain rfl : nn = u9 := by omega
                exact ih30 (y9 + 1) w9 _ _ _ (by omega) (by omega) (fun a b ha9 hb9 => hv9 a b (by omega) hb9) hP hD hS (lv_sub hl [1, 2, 3, 0] rfl)
              · refine lv_aload_n hx hb dX1_back_45 rfl (lv_at hl 0 rfl) ?_
                refine lv_iload_n hx hb dX1_back_46 rfl (lv_at hl 1 rfl) ?_
                refine lv_iload hx hb dX1_back_47 (lv_at hl 3 rfl) ?_
                refine lv_iload hx hb dX1_back_49 (lv_at hl 4 rfl) ?_
                refine vp_callSl (W.runV (As := [.int (nI nn), .int (nI y9), .int (nI u9)]) (rest := []) ⟨hx, hb, hml, hown, hts⟩ (n_column l D y ce (0 : Int32) r0 r1 r2 r3 dn ac w9 hdn nn sp y9 u9 (by omega) hsz9 (by omega) (by omega)) (cwV 3 hts (gw_V wm_358 wm_360 wm_8 wm_13 wm_361) rfl rfl rfl (by decide +kernel) ⟨Nat.le_of_ble_eq_true rfl, Nat.le_of_ble_eq_true rfl⟩) ⟨cro_blind, va_recv hK hP (ci := 1) (q0 := 0) rfl rfl, fun U hU hW => ⟨rfl, cro_at hP hK hTb hS hU hW⟩⟩ rfl rfl hl.1 rfl (lv_room (Nat.le_of_ble_eq_true rfl)) dX1_back_51 ⟨Nat.le_of_ble_eq_true rfl, Nat.le_of_ble_eq_true rfl⟩) (fun r_17 hr_17 => ?_)
                rw [hr_17]
                refine lv_lstore (lv' := [(6, .long (cN sp nn r0 r1 y9 u9)), (0, .ref (y 0)), (1, .int (nI nn)), (2, .long (bG1 (cN sp nn r0 r1) y9 (bG (cN sp nn r0 r1) nn y9) u9)), (4, .int (nI y9)), (5, .int (nI u9))]) hx hb dX1_back_54 hl (by decide) rfl (fun ls hl => ?_)
                refine lv_aload_n hx hb dX1_back_56 rfl (lv_at hl 1 rfl) ?_
                refine va_get (D := D) (ci := 1) (v := .ref (y 7)) (C := RX1) (T := TX1) (N := 8) hx hb hts hin1 hown hK hP 0 rfl rfl 7 (by decide) hf28 (fun _ h9 => h9) rfl dX1_back_57 ?_
                refine lv_bipush (v := (8 : Int32)) hx hb dX1_back_60 (by decide +kernel) ?_
                refine lv_iload hx hb dX1_back_62 (lv_at hl 4 rfl) ?_
                refine cx_imul hx hb 8 y9 dX1_back_64 ?_
                refine lv_iload hx hb dX1_back_65 (lv_at hl 5 rfl) ?_
                refine cx_iadd hx hb (8 * y9) u9 dX1_back_67 ?_
                rw [show 8 * y9 + u9 = y9 * 8 + u9 from by omega]
                refine lv_lload hx hb dX1_back_68 (lv_at hl 0 rfl) ?_
                refine cx_last hx hb hK hP hD hS 7 6 rfl rfl (y9 * 8 + u9) (by omega) (by decide) dX1_back_70 (fun H locs hP hD hS => ?_)
                have hP : va_P D vwCl (mw y ce (0 : Int32) r0 r1 r2 r3 dn ac (vp_updL w9 (y9 * 8 + u9) (cN sp nn r0 r1 y9 u9))) H := hP
                have hD : va_D A (mw y ce (0 : Int32) r0 r1 r2 r3 dn ac (vp_updL w9 (y9 * 8 + u9) (cN sp nn r0 r1 y9 u9))) := hD
                have J98 : ∀ (tv : Int64), (tv = mostV (cN sp nn r0 r1 y9 u9) (bG1 (cN sp nn r0 r1) y9 (bG (cN sp nn r0 r1) nn y9) u9)) → W p l e ((headSpec wsX1_back ({ frames := 3, cells := 0, slots := 0, locals := 70 } : Room)).room) s m (([.ref (y 0), .int q] : List Value).toArray) below meth c H locs 0 0 (MQ below (va_Ql (fun (r : Int64) (u9 : Int32 × (Nat → Int32) × (Nat → Int64)) => match u9 with | (t9, u, g8) => (t9 = 0 ∧ szOk q ∧ r = bG (cN (8 / q.toInt.toNat) q.toInt.toNat r0 r1) q.toInt.toNat q.toInt.toNat ∧ ∀ a b, a < 8 → b < 8 → u (a * 8 + b) = if a < q.toInt.toNat ∧ b < q.toInt.toNat then bS (8 / q.toInt.toNat) q.toInt.toNat (cN (8 / q.toInt.toNat) q.toInt.toNat r0 r1) a b else r2 (a * 8 + b)) ∨ (t9 = 1 ∧ ¬ szOk q ∧ u = r2)) (fun (u9 : Int32 × (Nat → Int32) × (Nat → Int64)) (t : State) => match u9 with | (t9, u, g8) => crB D (mw y ce t9 r0 r1 u r3 dn ac g8) (mty ce) A t) A) ([.ref (y 0), .int q] : List Value).toArray s 0 0 A) (F0 m 98 ls [.long tv]) := by
                  intro tv htv
                  refine lv_lstore_n (lv' := [(2, .long tv), (6, .long (cN sp nn r0 r1 y9 u9)), (0, .ref (y 0)), (1, .int (nI nn)), (4, .int (nI y9)), (5, .int (nI u9))]) hx hb dX1_back_98 rfl hl (by decide) rfl (fun ls hl => ?_)
                  have e_18 : tv = bG1 (cN sp nn r0 r1) y9 (bG (cN sp nn r0 r1) nn y9) (u9 + 1) := htv.trans (maxL_most (bG1_pos _ _ _ (bG_pos _ _ _) _)).1
                  rw [e_18] at hl
                  refine lv_iinc (v := nI (u9 + 1)) (lv' := [(5, .int (nI (u9 + 1))), (2, .long (bG1 (cN sp nn r0 r1) y9 (bG (cN sp nn r0 r1) nn y9) (u9 + 1))), (6, .long (cN sp nn r0 r1 y9 u9)), (0, .ref (y 0)), (1, .int (nI nn)), (4, .int (nI y9))]) hx hb dX1_back_99 hl (k := 5) rfl (by show nI u9 + 1 = nI (u9 + 1); exact nI_add u9 1) (by decide) rfl (fun ls hl => ?_)
                  refine lv_goto (tgt := 39) hx hb dX1_back_102 (by decide) ?_
                  exact ih39 (u9 + 1) (vp_updL w9 (y9 * 8 + u9) (cN sp nn r0 r1 y9 u9)) _ _ _ (by omega) (by omega) (by
                      intro a b ha9 hb9
                      by_cases hq : a * 8 + b = y9 * 8 + u9
                      · obtain rfl : y9 = a := by omega
                        obtain rfl : u9 = b := by omega
                        exact pk_uLs
                      · rw [pk_uLn hq]; exact hv9 a b (by omega) hb9) hP hD hS (lv_sub hl [3, 4, 1, 5, 0] rfl)
                refine lv_lload hx hb dX1_back_71 (lv_at hl 0 rfl) ?_
                refine lv_lload_n hx hb dX1_back_73 rfl (lv_at hl 3 rfl) ?_
                refine cx_lcmp_le (i := (cN sp nn r0 r1 y9 u9).toInt) (j := (bG1 (cN sp nn r0 r1) y9 (bG (cN sp nn r0 r1) nn y9) u9).toInt) (tgt := 83) hx hb rfl rfl dX1_back_74 dX1_back_75 (by decide) (fun c_19 => ?_) (fun c_19 => ?_)
                · refine lv_lload hx hb dX1_back_83 (lv_at hl 0 rfl) ?_
                  refine lv_lneg hx hb dX1_back_85 ?_
                  refine lv_lload_n hx hb dX1_back_86 rfl (lv_at hl 3 rfl) ?_
                  refine cx_lcmp_le (i := (-(cN sp nn r0 r1 y9 u9)).toInt) (j := (bG1 (cN sp nn r0 r1) y9 (bG (cN sp nn r0 r1) nn y9) u9).toInt) (tgt := 97) hx hb rfl rfl dX1_back_87 dX1_back_88 (by decide) (fun c_20 => ?_) (fun c_20 => ?_)
                  · refine lv_lload_n hx hb dX1_back_97 rfl (lv_at hl 3 rfl) ?_
                    exact J98 (bG1 (cN sp nn r0 r1) y9 (bG (cN sp nn r0 r1) nn y9) u9) (by unfold mostV; rw [if_neg (by omega), if_neg (by omega)])
                  · refine lv_lload hx hb dX1_back_91 (lv_at hl 0 rfl) ?_
                    refine lv_lneg hx hb dX1_back_93 ?_
                    refine lv_goto (tgt := 98) hx hb dX1_back_94 (by decide) ?_
                    exact J98 (-(cN sp nn r0 r1 y9 u9)) (by unfold mostV; rw [if_neg (by omega), if_pos (by omega)])
                · refine lv_lload hx hb dX1_back_78 (lv_at hl 0 rfl) ?_
                  refine lv_goto (tgt := 98) hx hb dX1_back_80 (by decide) ?_
                  exact J98 (cN sp nn r0 r1 y9 u9) (by unfold mostV; rw [if_pos (by omega)])
          exact L39 _ 0 w9 _ _ _ (Nat.lt_succ_self _) (Nat.zero_le _) (fun a b ha9 hb9 => hw9 a b (by omega) hb9) hP hD hS (lv_sub hl [1, 2, 3, 4, 0] rfl)
    exact L30 _ 0 sm _ _ _ (Nat.lt_succ_self _) (Nat.zero_le _) (fun a b ha9 => absurd ha9 (Nat.not_lt_zero a)) hP hD hS (lv_sub hl [2, 3, 1, 0] rfl)
  · skip
    refine cx_if_eq (i := 0) (j := 0) (tgt := 12) hx hb (by decide +kernel) rfl dX1_back_5 (by decide) (fun c_21 => ?_) (fun c_21 => absurd c_21 (by decide))
    refine lv_iconst (v := (1 : Int32)) hx hb dX1_back_12 (by decide +kernel) ?_
    refine va_put (D := D) (ci := 1) (v := .int (1 : Int32)) (ty := .int) (C := RX1) (T := TX1) (N := 8) hx hb hts hin1 tyX1 tyX1_ok nmX1 hown hK hP hD hS 0 rfl rfl 0 (by decide) hf32 (fun _ h9 => h9) rfl (by decide +kernel) rfl rfl (Nat.le_of_ble_eq_true rfl) dX1_back_13 (fun H locs hP hD hS => ?_)
    have hP : va_P D vwCl (mw y ce (1 : Int32) r0 r1 r2 r3 dn ac sm) H := hP
    have hD : va_D A (mw y ce (1 : Int32) r0 r1 r2 r3 dn ac sm) := hD
    refine lv_aload_n hx hb dX1_back_16 rfl (lv_at hl 0 rfl) ?_
    refine va_get (D := D) (ci := 1) (v := .int (1 : Int32)) (C := RX1) (T := TX1) (N := 8) hx hb hts hin1 hown hK hP 0 rfl rfl 0 (by decide) hf32 (fun _ h9 => h9) rfl dX1_back_17 ?_
    refine cx_if_le (i := 1) (j := 0) (tgt := 25) hx hb (by decide +kernel) rfl dX1_back_20 (by decide) (fun c_22 => absurd c_22 (by decide)) (fun c_22 => ?_)
    refine lv_lconst (v := (0 : Int64)) hx hb dX1_back_23 (by decide +kernel) ?_
    exact W.lret (v := (0 : Int64)) hx hb hr (fun t ht hW => ⟨⟨(0 : Int64), ((1 : Int32), r2, sm), rfl, Or.inr ⟨rfl, hs9, rfl⟩, by rw [ht]; exact hP, va_K.moved hW.alike hK, hD⟩, hS.F ht⟩) hS.2.2 dX1_back_24

theorem dL_acts_817 : decode cL_acts 817 = .ok (.aload 4, 2) := by decide +kernel
theorem dL_acts_819 : decode cL_acts 819 = .ok (.aload 6, 2) := by decide +kernel
theorem dL_acts_821 : decode cL_acts 821 = .ok (.aload 7, 2) := by decide +kernel
theorem dL_acts_823 : decode cL_acts 823 = .ok (.aload 8, 2) := by decide +kernel
theorem dL_acts_825 : decode cL_acts 825 = .ok (.iload 12, 2) := by decide +kernel
theorem dL_acts_827 : decode cL_acts 827 = .ok (.invokestatic 122, 3) := by decide +kernel
theorem dL_acts_830 : decode cL_acts 830 = .ok (.if_icmp .ne 7, 3) := by decide +kernel
theorem dL_acts_833 : decode cL_acts 833 = .ok (.iconst 1, 1) := by decide +kernel
theorem dL_acts_834 : decode cL_acts 834 = .ok (.goto 4, 3) := by decide +kernel
theorem dL_acts_837 : decode cL_acts 837 = .ok (.iconst 0, 1) := by decide +kernel
theorem dL_acts_838 : decode cL_acts 838 = .ok (.ireturn, 1) := by decide +kernel
theorem dL_acts_839 : decode cL_acts 839 = .ok (.aload_n 1, 1) := by decide +kernel
theorem dL_acts_840 : decode cL_acts 840 = .ok (.aload_n 2, 1) := by decide +kernel
theorem dL_acts_841 : decode cL_acts 841 = .ok (.aload 4, 2) := by decide +kernel
theorem dL_acts_843 : decode cL_acts 843 = .ok (.aload 5, 2) := by decide +kernel
theorem dL_acts_845 : decode cL_acts 845 = .ok (.aload 6, 2) := by decide +kernel
theorem dL_acts_847 : decode cL_acts 847 = .ok (.aload 7, 2) := by decide +kernel
theorem dL_acts_849 : decode cL_acts 849 = .ok (.aload 8, 2) := by decide +kernel
theorem dL_acts_851 : decode cL_acts 851 = .ok (.iconst 1, 1) := by decide +kernel
theorem dL_acts_852 : decode cL_acts 852 = .ok (.invokestatic 64, 3) := by decide +kernel
theorem dL_acts_855 : decode cL_acts 855 = .ok (.lstore 13, 2) := by decide +kernel
theorem dL_acts_857 : decode cL_acts 857 = .ok (.lload 13, 2) := by decide +kernel
theorem dL_acts_859 : decode cL_acts 859 = .ok (.lconst 0, 1) := by decide +kernel
theorem dL_acts_860 : decode cL_acts 860 = .ok (.lcmp, 1) := by decide +kernel
theorem dL_acts_861 : decode cL_acts 861 = .ok (.ifCond .eq 89, 3) := by decide +kernel
theorem dL_acts_864 : decode cL_acts 864 = .ok (.aload_n 1, 1) := by decide +kernel
theorem dL_acts_865 : decode cL_acts 865 = .ok (.aload_n 2, 1) := by decide +kernel
theorem dL_acts_866 : decode cL_acts 866 = .ok (.aload 4, 2) := by decide +kernel
theorem dL_acts_868 : decode cL_acts 868 = .ok (.aload 5, 2) := by decide +kernel
theorem dL_acts_870 : decode cL_acts 870 = .ok (.aload 6, 2) := by decide +kernel
theorem dL_acts_872 : decode cL_acts 872 = .ok (.aload 7, 2) := by decide +kernel
theorem dL_acts_874 : decode cL_acts 874 = .ok (.aload 8, 2) := by decide +kernel
theorem dL_acts_876 : decode cL_acts 876 = .ok (.iconst 0, 1) := by decide +kernel
theorem dL_acts_877 : decode cL_acts 877 = .ok (.invokestatic 64, 3) := by decide +kernel
theorem dL_acts_880 : decode cL_acts 880 = .ok (.ldc2_w 9, 3) := by decide +kernel
theorem dL_acts_883 : decode cL_acts 883 = .ok (.lmul, 1) := by decide +kernel
theorem dL_acts_884 : decode cL_acts 884 = .ok (.lload 13, 2) := by decide +kernel
theorem dL_acts_886 : decode cL_acts 886 = .ok (.ldiv, 1) := by decide +kernel
theorem dL_acts_887 : decode cL_acts 887 = .ok (.lstore 15, 2) := by decide +kernel
theorem dL_acts_889 : decode cL_acts 889 = .ok (.aload 8, 2) := by decide +kernel
theorem dL_acts_891 : decode cL_acts 891 = .ok (.iconst 3, 1) := by decide +kernel
theorem dL_acts_892 : decode cL_acts 892 = .ok (.iaload, 1) := by decide +kernel
theorem dL_acts_893 : decode cL_acts 893 = .ok (.i2l, 1) := by decide +kernel
theorem dL_acts_894 : decode cL_acts 894 = .ok (.lload 15, 2) := by decide +kernel
theorem dL_acts_896 : decode cL_acts 896 = .ok (.ldc2_w 124, 3) := by decide +kernel
theorem dL_acts_899 : decode cL_acts 899 = .ok (.lcmp, 1) := by decide +kernel
theorem dL_acts_900 : decode cL_acts 900 = .ok (.ifCond .ge 8, 3) := by decide +kernel
theorem dL_acts_903 : decode cL_acts 903 = .ok (.lload 15, 2) := by decide +kernel
theorem dL_acts_905 : decode cL_acts 905 = .ok (.goto 6, 3) := by decide +kernel
theorem dL_acts_908 : decode cL_acts 908 = .ok (.ldc2_w 124, 3) := by decide +kernel
theorem dL_acts_911 : decode cL_acts 911 = .ok (.lmul, 1) := by decide +kernel
theorem dL_acts_912 : decode cL_acts 912 = .ok (.ldc2_w 9, 3) := by decide +kernel
theorem dL_acts_915 : decode cL_acts 915 = .ok (.ldiv, 1) := by decide +kernel
theorem dL_acts_916 : decode cL_acts 916 = .ok (.lstore 17, 2) := by decide +kernel
theorem dL_acts_918 : decode cL_acts 918 = .ok (.aload 8, 2) := by decide +kernel
theorem dL_acts_920 : decode cL_acts 920 = .ok (.iconst 3, 1) := by decide +kernel
theorem dL_acts_921 : decode cL_acts 921 = .ok (.lload 17, 2) := by decide +kernel
theorem dL_acts_923 : decode cL_acts 923 = .ok (.lconst 1, 1) := by decide +kernel
theorem dL_acts_924 : decode cL_acts 924 = .ok (.lcmp, 1) := by decide +kernel
theorem dL_acts_925 : decode cL_acts 925 = .ok (.ifCond .ge 7, 3) := by decide +kernel
theorem dL_acts_928 : decode cL_acts 928 = .ok (.iconst 1, 1) := by decide +kernel
theorem dL_acts_929 : decode cL_acts 929 = .ok (.goto 20, 3) := by decide +kernel
theorem dL_acts_932 : decode cL_acts 932 = .ok (.lload 17, 2) := by decide +kernel
theorem dL_acts_934 : decode cL_acts 934 = .ok (.ldc2_w 124, 3) := by decide +kernel
theorem dL_acts_937 : decode cL_acts 937 = .ok (.lcmp, 1) := by decide +kernel
theorem dL_acts_938 : decode cL_acts 938 = .ok (.ifCond .le 8, 3) := by decide +kernel
theorem dL_acts_941 : decode cL_acts 941 = .ok (.ldc 93, 2) := by decide +kernel
theorem dL_acts_943 : decode cL_acts 943 = .ok (.goto 6, 3) := by decide +kernel
theorem dL_acts_946 : decode cL_acts 946 = .ok (.lload 17, 2) := by decide +kernel
theorem dL_acts_948 : decode cL_acts 948 = .ok (.l2i, 1) := by decide +kernel
theorem dL_acts_949 : decode cL_acts 949 = .ok (.iastore, 1) := by decide +kernel
theorem dL_acts_950 : decode cL_acts 950 = .ok (.aload_n 0, 1) := by decide +kernel
theorem dL_acts_951 : decode cL_acts 951 = .ok (.invokevirtual 126, 3) := by decide +kernel
theorem dL_acts_954 : decode cL_acts 954 = .ok (.aload 8, 2) := by decide +kernel
theorem dL_acts_956 : decode cL_acts 956 = .ok (.iconst 3, 1) := by decide +kernel
theorem dL_acts_957 : decode cL_acts 957 = .ok (.iaload, 1) := by decide +kernel
theorem dL_acts_958 : decode cL_acts 958 = .ok (.if_icmp .ne 7, 3) := by decide +kernel
theorem dL_acts_961 : decode cL_acts 961 = .ok (.iconst 1, 1) := by decide +kernel
theorem dL_acts_962 : decode cL_acts 962 = .ok (.goto 4, 3) := by decide +kernel
theorem dL_acts_965 : decode cL_acts 965 = .ok (.iconst 0, 1) := by decide +kernel
theorem dL_acts_966 : decode cL_acts 966 = .ok (.ireturn, 1) := by decide +kernel
theorem dL_holds_0 : decode cL_holds 0 = .ok (.new 38, 3) := by decide +kernel
theorem dL_holds_3 : decode cL_holds 3 = .ok (.dup, 1) := by decide +kernel
theorem dL_holds_4 : decode cL_holds 4 = .ok (.invokespecial 129, 3) := by decide +kernel
theorem dL_holds_7 : decode cL_holds 7 = .ok (.astore_n 1, 1) := by decide +kernel
theorem dL_holds_8 : decode cL_holds 8 = .ok (.bipush 36, 2) := by decide +kernel
theorem dL_holds_10 : decode cL_holds 10 = .ok (.newarray .int, 2) := by decide +kernel
theorem dL_holds_12 : decode cL_holds 12 = .ok (.astore_n 2, 1) := by decide +kernel
theorem dL_holds_13 : decode cL_holds 13 = .ok (.bipush 12, 2) := by decide +kernel
theorem dL_holds_15 : decode cL_holds 15 = .ok (.newarray .int, 2) := by decide +kernel
theorem dL_holds_17 : decode cL_holds 17 = .ok (.astore_n 3, 1) := by decide +kernel
theorem dL_holds_18 : decode cL_holds 18 = .ok (.bipush 12, 2) := by decide +kernel
theorem dL_holds_20 : decode cL_holds 20 = .ok (.newarray .int, 2) := by decide +kernel
theorem dL_holds_22 : decode cL_holds 22 = .ok (.astore 4, 2) := by decide +kernel
theorem dL_holds_24 : decode cL_holds 24 = .ok (.bipush 12, 2) := by decide +kernel
theorem dL_holds_26 : decode cL_holds 26 = .ok (.newarray .int, 2) := by decide +kernel
theorem dL_holds_28 : decode cL_holds 28 = .ok (.astore 5, 2) := by decide +kernel
theorem dL_holds_30 : decode cL_holds 30 = .ok (.bipush 12, 2) := by decide +kernel
theorem dL_holds_32 : decode cL_holds 32 = .ok (.newarray .int, 2) := by decide +kernel
theorem dL_holds_34 : decode cL_holds 34 = .ok (.astore 6, 2) := by decide +kernel
theorem dL_holds_36 : decode cL_holds 36 = .ok (.bipush 12, 2) := by decide +kernel
theorem dL_holds_38 : decode cL_holds 38 = .ok (.newarray .int, 2) := by decide +kernel
theorem dL_holds_40 : decode cL_holds 40 = .ok (.astore 7, 2) := by decide +kernel
theorem dL_holds_42 : decode cL_holds 42 = .ok (.bipush 12, 2) := by decide +kernel
theorem dL_holds_44 : decode cL_holds 44 = .ok (.newarray .int, 2) := by decide +kernel
theorem dL_holds_46 : decode cL_holds 46 = .ok (.astore 8, 2) := by decide +kernel
theorem dL_holds_48 : decode cL_holds 48 = .ok (.iconst 4, 1) := by decide +kernel
theorem dL_holds_49 : decode cL_holds 49 = .ok (.newarray .int, 2) := by decide +kernel
theorem dL_holds_51 : decode cL_holds 51 = .ok (.astore 9, 2) := by decide +kernel
theorem dL_holds_53 : decode cL_holds 53 = .ok (.iconst 0, 1) := by decide +kernel
theorem dL_holds_54 : decode cL_holds 54 = .ok (.istore 10, 2) := by decide +kernel
theorem dL_holds_56 : decode cL_holds 56 = .ok (.iload 10, 2) := by decide +kernel
theorem dL_holds_58 : decode cL_holds 58 = .ok (.bipush 12, 2) := by decide +kernel
theorem dL_holds_60 : decode cL_holds 60 = .ok (.if_icmp .ge 17, 3) := by decide +kernel
theorem dL_holds_63 : decode cL_holds 63 = .ok (.aload 8, 2) := by decide +kernel
theorem dL_holds_65 : decode cL_holds 65 = .ok (.iload 10, 2) := by decide +kernel
theorem dL_holds_67 : decode cL_holds 67 = .ok (.sipush 10000, 3) := by decide +kernel
theorem dL_holds_70 : decode cL_holds 70 = .ok (.iastore, 1) := by decide +kernel
theorem dL_holds_71 : decode cL_holds 71 = .ok (.iinc 10 1, 3) := by decide +kernel
theorem dL_holds_74 : decode cL_holds 74 = .ok (.goto (-18), 3) := by decide +kernel
theorem dL_holds_77 : decode cL_holds 77 = .ok (.aload 9, 2) := by decide +kernel
theorem dL_holds_79 : decode cL_holds 79 = .ok (.iconst 2, 1) := by decide +kernel
theorem dL_holds_80 : decode cL_holds 80 = .ok (.iconst (-1), 1) := by decide +kernel
theorem dL_holds_81 : decode cL_holds 81 = .ok (.iastore, 1) := by decide +kernel
theorem dL_holds_82 : decode cL_holds 82 = .ok (.aload 9, 2) := by decide +kernel
theorem dL_holds_84 : decode cL_holds 84 = .ok (.iconst 3, 1) := by decide +kernel
theorem dL_holds_85 : decode cL_holds 85 = .ok (.sipush 10000, 3) := by decide +kernel
theorem dL_holds_88 : decode cL_holds 88 = .ok (.iastore, 1) := by decide +kernel
theorem dL_holds_89 : decode cL_holds 89 = .ok (.aload_n 1, 1) := by decide +kernel
theorem dL_holds_90 : decode cL_holds 90 = .ok (.invokevirtual 85, 3) := by decide +kernel
theorem dL_holds_93 : decode cL_holds 93 = .ok (.ifCond .ne 24, 3) := by decide +kernel
theorem dL_holds_96 : decode cL_holds 96 = .ok (.aload_n 1, 1) := by decide +kernel
theorem dL_holds_97 : decode cL_holds 97 = .ok (.invokevirtual 58, 3) := by decide +kernel
theorem dL_holds_100 : decode cL_holds 100 = .ok (.lconst 0, 1) := by decide +kernel
theorem dL_holds_101 : decode cL_holds 101 = .ok (.lcmp, 1) := by decide +kernel
theorem dL_holds_102 : decode cL_holds 102 = .ok (.ifCond .ne 15, 3) := by decide +kernel
theorem dL_holds_105 : decode cL_holds 105 = .ok (.aload_n 1, 1) := by decide +kernel
theorem dL_holds_106 : decode cL_holds 106 = .ok (.invokevirtual 116, 3) := by decide +kernel
theorem dL_holds_109 : decode cL_holds 109 = .ok (.iconst 1, 1) := by decide +kernel
theorem dL_holds_110 : decode cL_holds 110 = .ok (.if_icmp .ne 7, 3) := by decide +kernel
theorem dL_holds_113 : decode cL_holds 113 = .ok (.iconst 1, 1) := by decide +kernel
theorem dL_holds_114 : decode cL_holds 114 = .ok (.goto 4, 3) := by decide +kernel
theorem dL_holds_117 : decode cL_holds 117 = .ok (.iconst 0, 1) := by decide +kernel
theorem dL_holds_118 : decode cL_holds 118 = .ok (.istore 10, 2) := by decide +kernel
theorem dL_holds_120 : decode cL_holds 120 = .ok (.iconst 0, 1) := by decide +kernel
theorem dL_holds_121 : decode cL_holds 121 = .ok (.istore 11, 2) := by decide +kernel
theorem dL_holds_123 : decode cL_holds 123 = .ok (.iload 11, 2) := by decide +kernel
theorem dL_holds_125 : decode cL_holds 125 = .ok (.bipush 60, 2) := by decide +kernel
theorem dL_holds_127 : decode cL_holds 127 = .ok (.if_icmp .ge 106, 3) := by decide +kernel
theorem dL_holds_130 : decode cL_holds 130 = .ok (.iload 10, 2) := by decide +kernel
theorem dL_holds_132 : decode cL_holds 132 = .ok (.ifCond .eq 101, 3) := by decide +kernel
theorem dL_holds_135 : decode cL_holds 135 = .ok (.iload 11, 2) := by decide +kernel
theorem dL_holds_137 : decode cL_holds 137 = .ok (.iconst 5, 1) := by decide +kernel
theorem dL_holds_138 : decode cL_holds 138 = .ok (.if_icmp .ge 7, 3) := by decide +kernel
theorem dL_holds_141 : decode cL_holds 141 = .ok (.iconst 0, 1) := by decide +kernel
theorem dL_holds_142 : decode cL_holds 142 = .ok (.goto 13, 3) := by decide +kernel
theorem dL_holds_145 : decode cL_holds 145 = .ok (.aload_n 0, 1) := by decide +kernel
theorem dL_holds_146 : decode cL_holds 146 = .ok (.iconst 2, 1) := by decide +kernel
theorem dL_holds_147 : decode cL_holds 147 = .ok (.iload 11, 2) := by decide +kernel
theorem dL_holds_149 : decode cL_holds 149 = .ok (.imul, 1) := by decide +kernel
theorem dL_holds_150 : decode cL_holds 150 = .ok (.bipush 18, 2) := by decide +kernel
theorem dL_holds_152 : decode cL_holds 152 = .ok (.invokestatic 130, 3) := by decide +kernel
theorem dL_holds_155 : decode cL_holds 155 = .ok (.istore 12, 2) := by decide +kernel
theorem dL_holds_157 : decode cL_holds 157 = .ok (.aload_n 1, 1) := by decide +kernel
theorem dL_holds_158 : decode cL_holds 158 = .ok (.aload_n 2, 1) := by decide +kernel
theorem dL_holds_159 : decode cL_holds 159 = .ok (.aload_n 3, 1) := by decide +kernel
theorem dL_holds_160 : decode cL_holds 160 = .ok (.aload 4, 2) := by decide +kernel
theorem dL_holds_162 : decode cL_holds 162 = .ok (.aload 5, 2) := by decide +kernel
theorem dL_holds_164 : decode cL_holds 164 = .ok (.aload 6, 2) := by decide +kernel
theorem dL_holds_166 : decode cL_holds 166 = .ok (.aload 7, 2) := by decide +kernel
theorem dL_holds_168 : decode cL_holds 168 = .ok (.aload 8, 2) := by decide +kernel
theorem dL_holds_170 : decode cL_holds 170 = .ok (.aload 9, 2) := by decide +kernel
theorem dL_holds_172 : decode cL_holds 172 = .ok (.iload 12, 2) := by decide +kernel
theorem dL_holds_174 : decode cL_holds 174 = .ok (.aload_n 0, 1) := by decide +kernel
theorem dL_holds_175 : decode cL_holds 175 = .ok (.iconst 2, 1) := by decide +kernel
theorem dL_holds_176 : decode cL_holds 176 = .ok (.iload 11, 2) := by decide +kernel
theorem dL_holds_178 : decode cL_holds 178 = .ok (.imul, 1) := by decide +kernel
theorem dL_holds_179 : decode cL_holds 179 = .ok (.iconst 1, 1) := by decide +kernel
theorem dL_holds_180 : decode cL_holds 180 = .ok (.iadd, 1) := by decide +kernel
theorem dL_holds_181 : decode cL_holds 181 = .ok (.ldc 134, 2) := by decide +kernel
theorem dL_holds_183 : decode cL_holds 183 = .ok (.invokestatic 130, 3) := by decide +kernel
theorem dL_holds_186 : decode cL_holds 186 = .ok (.invokestatic 135, 3) := by decide +kernel
theorem dL_holds_189 : decode cL_holds 189 = .ok (.ifCond .eq 35, 3) := by decide +kernel
theorem dL_holds_192 : decode cL_holds 192 = .ok (.iload 11, 2) := by decide +kernel
theorem dL_holds_194 : decode cL_holds 194 = .ok (.iconst 2, 1) := by decide +kernel
theorem dL_holds_195 : decode cL_holds 195 = .ok (.irem, 1) := by decide +kernel
theorem dL_holds_196 : decode cL_holds 196 = .ok (.ifCond .eq 24, 3) := by decide +kernel
theorem dL_holds_199 : decode cL_holds 199 = .ok (.aload_n 1, 1) := by decide +kernel
theorem dL_holds_200 : decode cL_holds 200 = .ok (.aload_n 2, 1) := by decide +kernel
theorem dL_holds_201 : decode cL_holds 201 = .ok (.aload_n 3, 1) := by decide +kernel
theorem dL_holds_202 : decode cL_holds 202 = .ok (.aload 4, 2) := by decide +kernel
theorem dL_holds_204 : decode cL_holds 204 = .ok (.aload 5, 2) := by decide +kernel
theorem dL_holds_206 : decode cL_holds 206 = .ok (.aload 6, 2) := by decide +kernel
theorem dL_holds_208 : decode cL_holds 208 = .ok (.aload 7, 2) := by decide +kernel
theorem dL_holds_210 : decode cL_holds 210 = .ok (.aload 8, 2) := by decide +kernel
theorem dL_holds_212 : decode cL_holds 212 = .ok (.aload 9, 2) := by decide +kernel
theorem dL_holds_214 : decode cL_holds 214 = .ok (.invokestatic 139, 3) := by decide +kernel
theorem dL_holds_217 : decode cL_holds 217 = .ok (.ifCond .eq 7, 3) := by decide +kernel
theorem dL_holds_220 : decode cL_holds 220 = .ok (.iconst 1, 1) := by decide +kernel
theorem dL_holds_221 : decode cL_holds 221 = .ok (.goto 4, 3) := by decide +kernel
theorem dL_holds_224 : decode cL_holds 224 = .ok (.iconst 0, 1) := by decide +kernel
theorem dL_holds_225 : decode cL_holds 225 = .ok (.istore 10, 2) := by decide +kernel
theorem dL_holds_227 : decode cL_holds 227 = .ok (.iinc 11 1, 3) := by decide +kernel
theorem dL_holds_230 : decode cL_holds 230 = .ok (.goto (-107), 3) := by decide +kernel
theorem dL_holds_233 : decode cL_holds 233 = .ok (.iload 10, 2) := by decide +kernel
theorem dL_holds_235 : decode cL_holds 235 = .ok (.ifCond .eq 28, 3) := by decide +kernel
theorem dL_holds_238 : decode cL_holds 238 = .ok (.aload_n 1, 1) := by decide +kernel
theorem dL_holds_239 : decode cL_holds 239 = .ok (.aload_n 2, 1) := by decide +kernel
theorem dL_holds_240 : decode cL_holds 240 = .ok (.aload_n 3, 1) := by decide +kernel
theorem dL_holds_241 : decode cL_holds 241 = .ok (.aload 4, 2) := by decide +kernel
theorem dL_holds_243 : decode cL_holds 243 = .ok (.aload 5, 2) := by decide +kernel
theorem dL_holds_245 : decode cL_holds 245 = .ok (.aload 6, 2) := by decide +kernel
theorem dL_holds_247 : decode cL_holds 247 = .ok (.aload 7, 2) := by decide +kernel
theorem dL_holds_249 : decode cL_holds 249 = .ok (.aload 8, 2) := by decide +kernel
theorem dL_holds_251 : decode cL_holds 251 = .ok (.aload 9, 2) := by decide +kernel
theorem dL_holds_253 : decode cL_holds 253 = .ok (.invokestatic 139, 3) := by decide +kernel
theorem dL_holds_256 : decode cL_holds 256 = .ok (.ifCond .eq 7, 3) := by decide +kernel
theorem dL_holds_259 : decode cL_holds 259 = .ok (.iconst 1, 1) := by decide +kernel
theorem dL_holds_260 : decode cL_holds 260 = .ok (.goto 4, 3) := by decide +kernel
theorem dL_holds_263 : decode cL_holds 263 = .ok (.iconst 0, 1) := by decide +kernel
theorem dL_holds_264 : decode cL_holds 264 = .ok (.ireturn, 1) := by decide +kernel
theorem dL_isHeld_0 : decode cL_isHeld 0 = .ok (.aload_n 0, 1) := by decide +kernel
theorem dL_isHeld_1 : decode cL_isHeld 1 = .ok (.invokestatic 143, 3) := by decide +kernel
theorem dL_isHeld_4 : decode cL_isHeld 4 = .ok (.ireturn, 1) := by decide +kernel
theorem dL_isHeld_5 : decode cL_isHeld 5 = .ok (.astore_n 1, 1) := by decide +kernel
theorem dL_isHeld_6 : decode cL_isHeld 6 = .ok (.iconst 0, 1) := by decide +kernel
theorem dL_isHeld_7 : decode cL_isHeld 7 = .ok (.ireturn, 1) := by decide +kernel
theorem dL_isHeld_8 : decode cL_isHeld 8 = .ok (.astore_n 1, 1) := by decide +kernel
theorem dL_isHeld_9 : decode cL_isHeld 9 = .ok (.iconst 0, 1) := by decide +kernel
theorem dL_isHeld_10 : decode cL_isHeld 10 = .ok (.ireturn, 1) := by decide +kernel
theorem dL_isHeld_11 : decode cL_isHeld 11 = .ok (.astore_n 1, 1) := by decide +kernel
theorem dL_isHeld_12 : decode cL_isHeld 12 = .ok (.iconst 0, 1) := by decide +kernel
theorem dL_isHeld_13 : decode cL_isHeld 13 = .ok (.ireturn, 1) := by decide +kernel

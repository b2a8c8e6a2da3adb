theorem dL_beat_774 : decode cL_beat 774 = .ok (.ifCond .ge 33, 3) := by decide +kernel
theorem dL_beat_777 : decode cL_beat 777 = .ok (.aload_n 0, 1) := by decide +kernel
theorem dL_beat_778 : decode cL_beat 778 = .ok (.bipush 16, 2) := by decide +kernel
theorem dL_beat_780 : decode cL_beat 780 = .ok (.iload 10, 2) := by decide +kernel
theorem dL_beat_782 : decode cL_beat 782 = .ok (.iadd, 1) := by decide +kernel
theorem dL_beat_783 : decode cL_beat 783 = .ok (.iconst 1, 1) := by decide +kernel
theorem dL_beat_784 : decode cL_beat 784 = .ok (.iastore, 1) := by decide +kernel
theorem dL_beat_785 : decode cL_beat 785 = .ok (.aload_n 0, 1) := by decide +kernel
theorem dL_beat_786 : decode cL_beat 786 = .ok (.bipush 40, 2) := by decide +kernel
theorem dL_beat_788 : decode cL_beat 788 = .ok (.iload 10, 2) := by decide +kernel
theorem dL_beat_790 : decode cL_beat 790 = .ok (.iadd, 1) := by decide +kernel
theorem dL_beat_791 : decode cL_beat 791 = .ok (.iaload, 1) := by decide +kernel
theorem dL_beat_792 : decode cL_beat 792 = .ok (.ifCond .lt 15, 3) := by decide +kernel
theorem dL_beat_795 : decode cL_beat 795 = .ok (.aload_n 0, 1) := by decide +kernel
theorem dL_beat_796 : decode cL_beat 796 = .ok (.aload_n 1, 1) := by decide +kernel
theorem dL_beat_797 : decode cL_beat 797 = .ok (.aload_n 2, 1) := by decide +kernel
theorem dL_beat_798 : decode cL_beat 798 = .ok (.aload 4, 2) := by decide +kernel
theorem dL_beat_800 : decode cL_beat 800 = .ok (.aload 5, 2) := by decide +kernel
theorem dL_beat_802 : decode cL_beat 802 = .ok (.iload 10, 2) := by decide +kernel
theorem dL_beat_804 : decode cL_beat 804 = .ok (.invokestatic 24, 3) := by decide +kernel
theorem dL_beat_807 : decode cL_beat 807 = .ok (.aload_n 0, 1) := by decide +kernel
theorem dL_beat_808 : decode cL_beat 808 = .ok (.bipush 16, 2) := by decide +kernel
theorem dL_beat_810 : decode cL_beat 810 = .ok (.iload 10, 2) := by decide +kernel
theorem dL_beat_812 : decode cL_beat 812 = .ok (.iadd, 1) := by decide +kernel
theorem dL_beat_813 : decode cL_beat 813 = .ok (.aload_n 0, 1) := by decide +kernel
theorem dL_beat_814 : decode cL_beat 814 = .ok (.bipush 24, 2) := by decide +kernel
theorem dL_beat_816 : decode cL_beat 816 = .ok (.iload 10, 2) := by decide +kernel
theorem dL_beat_818 : decode cL_beat 818 = .ok (.iadd, 1) := by decide +kernel
theorem dL_beat_819 : decode cL_beat 819 = .ok (.iaload, 1) := by decide +kernel
theorem dL_beat_820 : decode cL_beat 820 = .ok (.ifCond .ne 23, 3) := by decide +kernel
theorem dL_beat_823 : decode cL_beat 823 = .ok (.aload_n 0, 1) := by decide +kernel
theorem dL_beat_824 : decode cL_beat 824 = .ok (.bipush 8, 2) := by decide +kernel
theorem dL_beat_826 : decode cL_beat 826 = .ok (.iload 10, 2) := by decide +kernel
theorem dL_beat_828 : decode cL_beat 828 = .ok (.iadd, 1) := by decide +kernel
theorem dL_beat_829 : decode cL_beat 829 = .ok (.iaload, 1) := by decide +kernel
theorem dL_beat_830 : decode cL_beat 830 = .ok (.aload 5, 2) := by decide +kernel
theorem dL_beat_832 : decode cL_beat 832 = .ok (.iconst 1, 1) := by decide +kernel
theorem dL_beat_833 : decode cL_beat 833 = .ok (.iaload, 1) := by decide +kernel
theorem dL_beat_834 : decode cL_beat 834 = .ok (.iconst 2, 1) := by decide +kernel
theorem dL_beat_835 : decode cL_beat 835 = .ok (.idiv, 1) := by decide +kernel
theorem dL_beat_836 : decode cL_beat 836 = .ok (.if_icmp .lt 7, 3) := by decide +kernel
theorem dL_beat_839 : decode cL_beat 839 = .ok (.iconst 0, 1) := by decide +kernel
theorem dL_beat_840 : decode cL_beat 840 = .ok (.goto 10, 3) := by decide +kernel
theorem dL_beat_843 : decode cL_beat 843 = .ok (.aload_n 0, 1) := by decide +kernel
theorem dL_beat_844 : decode cL_beat 844 = .ok (.bipush 16, 2) := by decide +kernel
theorem dL_beat_846 : decode cL_beat 846 = .ok (.iload 10, 2) := by decide +kernel
theorem dL_beat_848 : decode cL_beat 848 = .ok (.iadd, 1) := by decide +kernel
theorem dL_beat_849 : decode cL_beat 849 = .ok (.iaload, 1) := by decide +kernel
theorem dL_beat_850 : decode cL_beat 850 = .ok (.iastore, 1) := by decide +kernel
theorem dL_beat_851 : decode cL_beat 851 = .ok (.iinc 10 1, 3) := by decide +kernel
theorem dL_beat_854 : decode cL_beat 854 = .ok (.goto (-193), 3) := by decide +kernel
theorem dL_beat_857 : decode cL_beat 857 = .ok (.iconst 0, 1) := by decide +kernel
theorem dL_beat_858 : decode cL_beat 858 = .ok (.istore 10, 2) := by decide +kernel
theorem dL_beat_860 : decode cL_beat 860 = .ok (.iload 10, 2) := by decide +kernel
theorem dL_beat_862 : decode cL_beat 862 = .ok (.bipush 6, 2) := by decide +kernel
theorem dL_beat_864 : decode cL_beat 864 = .ok (.if_icmp .ge 53, 3) := by decide +kernel
theorem dL_beat_867 : decode cL_beat 867 = .ok (.aload 4, 2) := by decide +kernel
theorem dL_beat_869 : decode cL_beat 869 = .ok (.iload 10, 2) := by decide +kernel
theorem dL_beat_871 : decode cL_beat 871 = .ok (.iload 6, 2) := by decide +kernel
theorem dL_beat_873 : decode cL_beat 873 = .ok (.iload 10, 2) := by decide +kernel
theorem dL_beat_875 : decode cL_beat 875 = .ok (.ishr, 1) := by decide +kernel
theorem dL_beat_876 : decode cL_beat 876 = .ok (.iconst 1, 1) := by decide +kernel
theorem dL_beat_877 : decode cL_beat 877 = .ok (.iand, 1) := by decide +kernel
theorem dL_beat_878 : decode cL_beat 878 = .ok (.iconst 1, 1) := by decide +kernel
theorem dL_beat_879 : decode cL_beat 879 = .ok (.if_icmp .ne 7, 3) := by decide +kernel
theorem dL_beat_882 : decode cL_beat 882 = .ok (.iconst 0, 1) := by decide +kernel
theorem dL_beat_883 : decode cL_beat 883 = .ok (.goto 27, 3) := by decide +kernel
theorem dL_beat_886 : decode cL_beat 886 = .ok (.aload 4, 2) := by decide +kernel
theorem dL_beat_888 : decode cL_beat 888 = .ok (.iload 10, 2) := by decide +kernel
theorem dL_beat_890 : decode cL_beat 890 = .ok (.iaload, 1) := by decide +kernel
theorem dL_beat_891 : decode cL_beat 891 = .ok (.sipush 999, 3) := by decide +kernel
theorem dL_beat_894 : decode cL_beat 894 = .ok (.if_icmp .ne 9, 3) := by decide +kernel
theorem dL_beat_897 : decode cL_beat 897 = .ok (.sipush 999, 3) := by decide +kernel
theorem dL_beat_900 : decode cL_beat 900 = .ok (.goto 10, 3) := by decide +kernel
theorem dL_beat_903 : decode cL_beat 903 = .ok (.aload 4, 2) := by decide +kernel
theorem dL_beat_905 : decode cL_beat 905 = .ok (.iload 10, 2) := by decide +kernel
theorem dL_beat_907 : decode cL_beat 907 = .ok (.iaload, 1) := by decide +kernel
theorem dL_beat_908 : decode cL_beat 908 = .ok (.iconst 1, 1) := by decide +kernel
theorem dL_beat_909 : decode cL_beat 909 = .ok (.iadd, 1) := by decide +kernel
theorem dL_beat_910 : decode cL_beat 910 = .ok (.iastore, 1) := by decide +kernel
theorem dL_beat_911 : decode cL_beat 911 = .ok (.iinc 10 1, 3) := by decide +kernel
theorem dL_beat_914 : decode cL_beat 914 = .ok (.goto (-54), 3) := by decide +kernel
theorem dL_beat_917 : decode cL_beat 917 = .ok (.aload 5, 2) := by decide +kernel
theorem dL_beat_919 : decode cL_beat 919 = .ok (.iconst 5, 1) := by decide +kernel
theorem dL_beat_920 : decode cL_beat 920 = .ok (.dup2, 1) := by decide +kernel
theorem dL_beat_921 : decode cL_beat 921 = .ok (.iaload, 1) := by decide +kernel
theorem dL_beat_922 : decode cL_beat 922 = .ok (.iconst 1, 1) := by decide +kernel
theorem dL_beat_923 : decode cL_beat 923 = .ok (.iadd, 1) := by decide +kernel
theorem dL_beat_924 : decode cL_beat 924 = .ok (.iastore, 1) := by decide +kernel
theorem dL_beat_925 : decode cL_beat 925 = .ok (.iload 8, 2) := by decide +kernel
theorem dL_beat_927 : decode cL_beat 927 = .ok (.ireturn, 1) := by decide +kernel
theorem dL_stations_0 : decode cL_stations 0 = .ok (.iconst 0, 1) := by decide +kernel
theorem dL_stations_1 : decode cL_stations 1 = .ok (.istore 7, 2) := by decide +kernel
theorem dL_stations_3 : decode cL_stations 3 = .ok (.iload 7, 2) := by decide +kernel
theorem dL_stations_5 : decode cL_stations 5 = .ok (.aload 6, 2) := by decide +kernel
theorem dL_stations_7 : decode cL_stations 7 = .ok (.bipush 6, 2) := by decide +kernel
theorem dL_stations_9 : decode cL_stations 9 = .ok (.iaload, 1) := by decide +kernel
theorem dL_stations_10 : decode cL_stations 10 = .ok (.if_icmp .ge 664, 3) := by decide +kernel
theorem dL_stations_13 : decode cL_stations 13 = .ok (.aload_n 1, 1) := by decide +kernel
theorem dL_stations_14 : decode cL_stations 14 = .ok (.bipush 24, 2) := by decide +kernel
theorem dL_stations_16 : decode cL_stations 16 = .ok (.iload 7, 2) := by decide +kernel
theorem dL_stations_18 : decode cL_stations 18 = .ok (.iadd, 1) := by decide +kernel
theorem dL_stations_19 : decode cL_stations 19 = .ok (.iaload, 1) := by decide +kernel
theorem dL_stations_20 : decode cL_stations 20 = .ok (.iconst 1, 1) := by decide +kernel
theorem dL_stations_21 : decode cL_stations 21 = .ok (.if_icmp .ne 7, 3) := by decide +kernel
theorem dL_stations_24 : decode cL_stations 24 = .ok (.iconst 2, 1) := by decide +kernel
theorem dL_stations_25 : decode cL_stations 25 = .ok (.goto 10, 3) := by decide +kernel
theorem dL_stations_28 : decode cL_stations 28 = .ok (.aload_n 1, 1) := by decide +kernel
theorem dL_stations_29 : decode cL_stations 29 = .ok (.bipush 16, 2) := by decide +kernel
theorem dL_stations_31 : decode cL_stations 31 = .ok (.iload 7, 2) := by decide +kernel
theorem dL_stations_33 : decode cL_stations 33 = .ok (.iadd, 1) := by decide +kernel
theorem dL_stations_34 : decode cL_stations 34 = .ok (.iaload, 1) := by decide +kernel
theorem dL_stations_35 : decode cL_stations 35 = .ok (.istore 8, 2) := by decide +kernel
theorem dL_stations_37 : decode cL_stations 37 = .ok (.aload_n 0, 1) := by decide +kernel
theorem dL_stations_38 : decode cL_stations 38 = .ok (.iload 7, 2) := by decide +kernel
theorem dL_stations_40 : decode cL_stations 40 = .ok (.iconst 0, 1) := by decide +kernel
theorem dL_stations_41 : decode cL_stations 41 = .ok (.invokevirtual 28, 3) := by decide +kernel
theorem dL_stations_44 : decode cL_stations 44 = .ok (.aload_n 1, 1) := by decide +kernel
theorem dL_stations_45 : decode cL_stations 45 = .ok (.iload 7, 2) := by decide +kernel
theorem dL_stations_47 : decode cL_stations 47 = .ok (.iaload, 1) := by decide +kernel
theorem dL_stations_48 : decode cL_stations 48 = .ok (.if_icmp .ne 171, 3) := by decide +kernel
theorem dL_stations_51 : decode cL_stations 51 = .ok (.aload_n 0, 1) := by decide +kernel
theorem dL_stations_52 : decode cL_stations 52 = .ok (.iload 7, 2) := by decide +kernel
theorem dL_stations_54 : decode cL_stations 54 = .ok (.iconst 1, 1) := by decide +kernel
theorem dL_stations_55 : decode cL_stations 55 = .ok (.invokevirtual 28, 3) := by decide +kernel
theorem dL_stations_58 : decode cL_stations 58 = .ok (.aload_n 1, 1) := by decide +kernel
theorem dL_stations_59 : decode cL_stations 59 = .ok (.bipush 8, 2) := by decide +kernel
theorem dL_stations_61 : decode cL_stations 61 = .ok (.iload 7, 2) := by decide +kernel
theorem dL_stations_63 : decode cL_stations 63 = .ok (.iadd, 1) := by decide +kernel
theorem dL_stations_64 : decode cL_stations 64 = .ok (.iaload, 1) := by decide +kernel
theorem dL_stations_65 : decode cL_stations 65 = .ok (.if_icmp .ne 154, 3) := by decide +kernel
theorem dL_stations_68 : decode cL_stations 68 = .ok (.aload_n 0, 1) := by decide +kernel
theorem dL_stations_69 : decode cL_stations 69 = .ok (.iload 7, 2) := by decide +kernel
theorem dL_stations_71 : decode cL_stations 71 = .ok (.iconst 2, 1) := by decide +kernel
theorem dL_stations_72 : decode cL_stations 72 = .ok (.invokevirtual 28, 3) := by decide +kernel
theorem dL_stations_75 : decode cL_stations 75 = .ok (.iload 8, 2) := by decide +kernel
theorem dL_stations_77 : decode cL_stations 77 = .ok (.if_icmp .ne 142, 3) := by decide +kernel
theorem dL_stations_80 : decode cL_stations 80 = .ok (.aload_n 0, 1) := by decide +kernel
theorem dL_stations_81 : decode cL_stations 81 = .ok (.iload 7, 2) := by decide +kernel
theorem dL_stations_83 : decode cL_stations 83 = .ok (.iconst 3, 1) := by decide +kernel
theorem dL_stations_84 : decode cL_stations 84 = .ok (.invokevirtual 28, 3) := by decide +kernel
theorem dL_stations_87 : decode cL_stations 87 = .ok (.aload_n 1, 1) := by decide +kernel
theorem dL_stations_88 : decode cL_stations 88 = .ok (.bipush 32, 2) := by decide +kernel
theorem dL_stations_90 : decode cL_stations 90 = .ok (.iload 7, 2) := by decide +kernel
theorem dL_stations_92 : decode cL_stations 92 = .ok (.iadd, 1) := by decide +kernel
theorem dL_stations_93 : decode cL_stations 93 = .ok (.iaload, 1) := by decide +kernel
theorem dL_stations_94 : decode cL_stations 94 = .ok (.if_icmp .ne 125, 3) := by decide +kernel
theorem dL_stations_97 : decode cL_stations 97 = .ok (.aload_n 0, 1) := by decide +kernel
theorem dL_stations_98 : decode cL_stations 98 = .ok (.iload 7, 2) := by decide +kernel
theorem dL_stations_100 : decode cL_stations 100 = .ok (.iconst 4, 1) := by decide +kernel
theorem dL_stations_101 : decode cL_stations 101 = .ok (.invokevirtual 28, 3) := by decide +kernel
theorem dL_stations_104 : decode cL_stations 104 = .ok (.aload_n 1, 1) := by decide +kernel
theorem dL_stations_105 : decode cL_stations 105 = .ok (.bipush 40, 2) := by decide +kernel
theorem dL_stations_107 : decode cL_stations 107 = .ok (.iload 7, 2) := by decide +kernel
theorem dL_stations_109 : decode cL_stations 109 = .ok (.iadd, 1) := by decide +kernel
theorem dL_stations_110 : decode cL_stations 110 = .ok (.iaload, 1) := by decide +kernel
theorem dL_stations_111 : decode cL_stations 111 = .ok (.ifCond .ge 8, 3) := by decide +kernel
theorem dL_stations_114 : decode cL_stations 114 = .ok (.bipush (-6), 2) := by decide +kernel
theorem dL_stations_116 : decode cL_stations 116 = .ok (.goto 10, 3) := by decide +kernel
theorem dL_stations_119 : decode cL_stations 119 = .ok (.aload_n 1, 1) := by decide +kernel
theorem dL_stations_120 : decode cL_stations 120 = .ok (.bipush 40, 2) := by decide +kernel
theorem dL_stations_122 : decode cL_stations 122 = .ok (.iload 7, 2) := by decide +kernel
theorem dL_stations_124 : decode cL_stations 124 = .ok (.iadd, 1) := by decide +kernel
theorem dL_stations_125 : decode cL_stations 125 = .ok (.iaload, 1) := by decide +kernel
theorem dL_stations_126 : decode cL_stations 126 = .ok (.if_icmp .ne 93, 3) := by decide +kernel
theorem dL_stations_129 : decode cL_stations 129 = .ok (.aload_n 0, 1) := by decide +kernel
theorem dL_stations_130 : decode cL_stations 130 = .ok (.iload 7, 2) := by decide +kernel
theorem dL_stations_132 : decode cL_stations 132 = .ok (.iconst 5, 1) := by decide +kernel
theorem dL_stations_133 : decode cL_stations 133 = .ok (.invokevirtual 28, 3) := by decide +kernel
theorem dL_stations_136 : decode cL_stations 136 = .ok (.aload_n 1, 1) := by decide +kernel
theorem dL_stations_137 : decode cL_stations 137 = .ok (.bipush 48, 2) := by decide +kernel
theorem dL_stations_139 : decode cL_stations 139 = .ok (.iload 7, 2) := by decide +kernel
theorem dL_stations_141 : decode cL_stations 141 = .ok (.iadd, 1) := by decide +kernel
theorem dL_stations_142 : decode cL_stations 142 = .ok (.iaload, 1) := by decide +kernel
theorem dL_stations_143 : decode cL_stations 143 = .ok (.if_icmp .ne 76, 3) := by decide +kernel
theorem dL_stations_146 : decode cL_stations 146 = .ok (.aload_n 0, 1) := by decide +kernel
theorem dL_stations_147 : decode cL_stations 147 = .ok (.iload 7, 2) := by decide +kernel
theorem dL_stations_149 : decode cL_stations 149 = .ok (.bipush 6, 2) := by decide +kernel
theorem dL_stations_151 : decode cL_stations 151 = .ok (.invokevirtual 28, 3) := by decide +kernel
theorem dL_stations_154 : decode cL_stations 154 = .ok (.aload_n 1, 1) := by decide +kernel
theorem dL_stations_155 : decode cL_stations 155 = .ok (.bipush 56, 2) := by decide +kernel
theorem dL_stations_157 : decode cL_stations 157 = .ok (.iload 7, 2) := by decide +kernel
theorem dL_stations_159 : decode cL_stations 159 = .ok (.iadd, 1) := by decide +kernel
theorem dL_stations_160 : decode cL_stations 160 = .ok (.iaload, 1) := by decide +kernel
theorem dL_stations_161 : decode cL_stations 161 = .ok (.if_icmp .ne 58, 3) := by decide +kernel
theorem dL_stations_164 : decode cL_stations 164 = .ok (.aload_n 0, 1) := by decide +kernel
theorem dL_stations_165 : decode cL_stations 165 = .ok (.iload 7, 2) := by decide +kernel
theorem dL_stations_167 : decode cL_stations 167 = .ok (.bipush 7, 2) := by decide +kernel
theorem dL_stations_169 : decode cL_stations 169 = .ok (.invokevirtual 28, 3) := by decide +kernel
theorem dL_stations_172 : decode cL_stations 172 = .ok (.aload_n 2, 1) := by decide +kernel
theorem dL_stations_173 : decode cL_stations 173 = .ok (.iload 7, 2) := by decide +kernel
theorem dL_stations_175 : decode cL_stations 175 = .ok (.iaload, 1) := by decide +kernel
theorem dL_stations_176 : decode cL_stations 176 = .ok (.if_icmp .ne 43, 3) := by decide +kernel
theorem dL_stations_179 : decode cL_stations 179 = .ok (.aload_n 0, 1) := by decide +kernel
theorem dL_stations_180 : decode cL_stations 180 = .ok (.iload 7, 2) := by decide +kernel
theorem dL_stations_182 : decode cL_stations 182 = .ok (.bipush 8, 2) := by decide +kernel
theorem dL_stations_184 : decode cL_stations 184 = .ok (.invokevirtual 28, 3) := by decide +kernel
theorem dL_stations_187 : decode cL_stations 187 = .ok (.aload_n 2, 1) := by decide +kernel
theorem dL_stations_188 : decode cL_stations 188 = .ok (.bipush 8, 2) := by decide +kernel
theorem dL_stations_190 : decode cL_stations 190 = .ok (.iload 7, 2) := by decide +kernel
theorem dL_stations_192 : decode cL_stations 192 = .ok (.iadd, 1) := by decide +kernel
theorem dL_stations_193 : decode cL_stations 193 = .ok (.iaload, 1) := by decide +kernel
theorem dL_stations_194 : decode cL_stations 194 = .ok (.if_icmp .ne 25, 3) := by decide +kernel
theorem dL_stations_197 : decode cL_stations 197 = .ok (.aload_n 0, 1) := by decide +kernel
theorem dL_stations_198 : decode cL_stations 198 = .ok (.iload 7, 2) := by decide +kernel
theorem dL_stations_200 : decode cL_stations 200 = .ok (.bipush 9, 2) := by decide +kernel
theorem dL_stations_202 : decode cL_stations 202 = .ok (.invokevirtual 28, 3) := by decide +kernel
theorem dL_stations_205 : decode cL_stations 205 = .ok (.aload_n 2, 1) := by decide +kernel
theorem dL_stations_206 : decode cL_stations 206 = .ok (.bipush 16, 2) := by decide +kernel
theorem dL_stations_208 : decode cL_stations 208 = .ok (.iload 7, 2) := by decide +kernel
theorem dL_stations_210 : decode cL_stations 210 = .ok (.iadd, 1) := by decide +kernel
theorem dL_stations_211 : decode cL_stations 211 = .ok (.iaload, 1) := by decide +kernel
theorem dL_stations_212 : decode cL_stations 212 = .ok (.if_icmp .ne 7, 3) := by decide +kernel
theorem dL_stations_215 : decode cL_stations 215 = .ok (.iconst 1, 1) := by decide +kernel
theorem dL_stations_216 : decode cL_stations 216 = .ok (.goto 4, 3) := by decide +kernel
theorem dL_stations_219 : decode cL_stations 219 = .ok (.iconst 0, 1) := by decide +kernel
theorem dL_stations_220 : decode cL_stations 220 = .ok (.istore 9, 2) := by decide +kernel
theorem dL_stations_222 : decode cL_stations 222 = .ok (.iconst 0, 1) := by decide +kernel
theorem dL_stations_223 : decode cL_stations 223 = .ok (.istore 10, 2) := by decide +kernel
theorem dL_stations_225 : decode cL_stations 225 = .ok (.iload 10, 2) := by decide +kernel
theorem dL_stations_227 : decode cL_stations 227 = .ok (.iconst 5, 1) := by decide +kernel
theorem dL_stations_228 : decode cL_stations 228 = .ok (.if_icmp .ge 312, 3) := by decide +kernel
theorem dL_stations_231 : decode cL_stations 231 = .ok (.iload 9, 2) := by decide +kernel
theorem dL_stations_233 : decode cL_stations 233 = .ok (.ifCond .eq 307, 3) := by decide +kernel
theorem dL_stations_236 : decode cL_stations 236 = .ok (.iload 10, 2) := by decide +kernel
theorem dL_stations_238 : decode cL_stations 238 = .ok (.aload_n 1, 1) := by decide +kernel
theorem dL_stations_239 : decode cL_stations 239 = .ok (.bipush 32, 2) := by decide +kernel
theorem dL_stations_241 : decode cL_stations 241 = .ok (.iload 7, 2) := by decide +kernel
theorem dL_stations_243 : decode cL_stations 243 = .ok (.iadd, 1) := by decide +kernel
theorem dL_stations_244 : decode cL_stations 244 = .ok (.iaload, 1) := by decide +kernel
theorem dL_stations_245 : decode cL_stations 245 = .ok (.if_icmp .ge 7, 3) := by decide +kernel
theorem dL_stations_248 : decode cL_stations 248 = .ok (.iconst 1, 1) := by decide +kernel
theorem dL_stations_249 : decode cL_stations 249 = .ok (.goto 4, 3) := by decide +kernel
theorem dL_stations_252 : decode cL_stations 252 = .ok (.iconst 0, 1) := by decide +kernel
theorem dL_stations_253 : decode cL_stations 253 = .ok (.istore 11, 2) := by decide +kernel
theorem dL_stations_255 : decode cL_stations 255 = .ok (.iload 11, 2) := by decide +kernel
theorem dL_stations_257 : decode cL_stations 257 = .ok (.ifCond .eq 16, 3) := by decide +kernel
theorem dL_stations_260 : decode cL_stations 260 = .ok (.aload_n 3, 1) := by decide +kernel
theorem dL_stations_261 : decode cL_stations 261 = .ok (.bipush 8, 2) := by decide +kernel
theorem dL_stations_263 : decode cL_stations 263 = .ok (.iload 10, 2) := by decide +kernel
theorem dL_stations_265 : decode cL_stations 265 = .ok (.imul, 1) := by decide +kernel
theorem dL_stations_266 : decode cL_stations 266 = .ok (.iload 7, 2) := by decide +kernel
theorem dL_stations_268 : decode cL_stations 268 = .ok (.iadd, 1) := by decide +kernel
theorem dL_stations_269 : decode cL_stations 269 = .ok (.iaload, 1) := by decide +kernel
theorem dL_stations_270 : decode cL_stations 270 = .ok (.goto 4, 3) := by decide +kernel
theorem dL_stations_273 : decode cL_stations 273 = .ok (.iconst 0, 1) := by decide +kernel
theorem dL_stations_274 : decode cL_stations 274 = .ok (.istore 12, 2) := by decide +kernel
theorem dL_stations_276 : decode cL_stations 276 = .ok (.aload_n 0, 1) := by decide +kernel
theorem dL_stations_277 : decode cL_stations 277 = .ok (.iload 7, 2) := by decide +kernel
theorem dL_stations_279 : decode cL_stations 279 = .ok (.iload 10, 2) := by decide +kernel
theorem dL_stations_281 : decode cL_stations 281 = .ok (.iconst 0, 1) := by decide +kernel
theorem dL_stations_282 : decode cL_stations 282 = .ok (.invokevirtual 34, 3) := by decide +kernel
theorem dL_stations_285 : decode cL_stations 285 = .ok (.iload 11, 2) := by decide +kernel
theorem dL_stations_287 : decode cL_stations 287 = .ok (.ifCond .eq 12, 3) := by decide +kernel
theorem dL_stations_290 : decode cL_stations 290 = .ok (.iload 12, 2) := by decide +kernel
theorem dL_stations_292 : decode cL_stations 292 = .ok (.sipush 256, 3) := by decide +kernel
theorem dL_stations_295 : decode cL_stations 295 = .ok (.irem, 1) := by decide +kernel
theorem dL_stations_296 : decode cL_stations 296 = .ok (.goto 4, 3) := by decide +kernel
theorem dL_stations_299 : decode cL_stations 299 = .ok (.iconst (-1), 1) := by decide +kernel
theorem dL_stations_300 : decode cL_stations 300 = .ok (.if_icmp .ne 64, 3) := by decide +kernel
theorem dL_stations_303 : decode cL_stations 303 = .ok (.aload_n 0, 1) := by decide +kernel
theorem dL_stations_304 : decode cL_stations 304 = .ok (.iload 7, 2) := by decide +kernel
theorem dL_stations_306 : decode cL_stations 306 = .ok (.iload 10, 2) := by decide +kernel
theorem dL_stations_308 : decode cL_stations 308 = .ok (.iconst 1, 1) := by decide +kernel
theorem dL_stations_309 : decode cL_stations 309 = .ok (.invokevirtual 34, 3) := by decide +kernel
theorem dL_stations_312 : decode cL_stations 312 = .ok (.iload 11, 2) := by decide +kernel
theorem dL_stations_314 : decode cL_stations 314 = .ok (.ifCond .eq 15, 3) := by decide +kernel
theorem dL_stations_317 : decode cL_stations 317 = .ok (.iload 12, 2) := by decide +kernel
theorem dL_stations_319 : decode cL_stations 319 = .ok (.sipush 256, 3) := by decide +kernel
theorem dL_stations_322 : decode cL_stations 322 = .ok (.idiv, 1) := by decide +kernel
theorem dL_stations_323 : decode cL_stations 323 = .ok (.bipush 8, 2) := by decide +kernel
theorem dL_stations_325 : decode cL_stations 325 = .ok (.irem, 1) := by decide +kernel
theorem dL_stations_326 : decode cL_stations 326 = .ok (.goto 4, 3) := by decide +kernel
theorem dL_stations_329 : decode cL_stations 329 = .ok (.iconst (-1), 1) := by decide +kernel
theorem dL_stations_330 : decode cL_stations 330 = .ok (.if_icmp .ne 34, 3) := by decide +kernel
theorem dL_stations_333 : decode cL_stations 333 = .ok (.aload_n 0, 1) := by decide +kernel
theorem dL_stations_334 : decode cL_stations 334 = .ok (.iload 7, 2) := by decide +kernel
theorem dL_stations_336 : decode cL_stations 336 = .ok (.iload 10, 2) := by decide +kernel
theorem dL_stations_338 : decode cL_stations 338 = .ok (.iconst 2, 1) := by decide +kernel
theorem dL_stations_339 : decode cL_stations 339 = .ok (.invokevirtual 34, 3) := by decide +kernel
theorem dL_stations_342 : decode cL_stations 342 = .ok (.iload 11, 2) := by decide +kernel
theorem dL_stations_344 : decode cL_stations 344 = .ok (.ifCond .eq 12, 3) := by decide +kernel
theorem dL_stations_347 : decode cL_stations 347 = .ok (.iload 12, 2) := by decide +kernel
theorem dL_stations_349 : decode cL_stations 349 = .ok (.sipush 2048, 3) := by decide +kernel
theorem dL_stations_352 : decode cL_stations 352 = .ok (.idiv, 1) := by decide +kernel
theorem dL_stations_353 : decode cL_stations 353 = .ok (.goto 4, 3) := by decide +kernel
theorem dL_stations_356 : decode cL_stations 356 = .ok (.iconst (-1), 1) := by decide +kernel
theorem dL_stations_357 : decode cL_stations 357 = .ok (.if_icmp .ne 7, 3) := by decide +kernel
theorem dL_stations_360 : decode cL_stations 360 = .ok (.iconst 1, 1) := by decide +kernel
theorem dL_stations_361 : decode cL_stations 361 = .ok (.goto 4, 3) := by decide +kernel
theorem dL_stations_364 : decode cL_stations 364 = .ok (.iconst 0, 1) := by decide +kernel
theorem dL_stations_365 : decode cL_stations 365 = .ok (.istore 9, 2) := by decide +kernel
theorem dL_stations_367 : decode cL_stations 367 = .ok (.iload 10, 2) := by decide +kernel
theorem dL_stations_369 : decode cL_stations 369 = .ok (.aload_n 2, 1) := by decide +kernel
theorem dL_stations_370 : decode cL_stations 370 = .ok (.bipush 24, 2) := by decide +kernel
theorem dL_stations_372 : decode cL_stations 372 = .ok (.iload 7, 2) := by decide +kernel
theorem dL_stations_374 : decode cL_stations 374 = .ok (.iadd, 1) := by decide +kernel
theorem dL_stations_375 : decode cL_stations 375 = .ok (.iaload, 1) := by decide +kernel
theorem dL_stations_376 : decode cL_stations 376 = .ok (.if_icmp .ge 7, 3) := by decide +kernel
theorem dL_stations_379 : decode cL_stations 379 = .ok (.iconst 1, 1) := by decide +kernel
theorem dL_stations_380 : decode cL_stations 380 = .ok (.goto 4, 3) := by decide +kernel
theorem dL_stations_383 : decode cL_stations 383 = .ok (.iconst 0, 1) := by decide +kernel
theorem dL_stations_384 : decode cL_stations 384 = .ok (.istore 11, 2) := by decide +kernel
theorem dL_stations_386 : decode cL_stations 386 = .ok (.iload 11, 2) := by decide +kernel
theorem dL_stations_388 : decode cL_stations 388 = .ok (.ifCond .eq 17, 3) := by decide +kernel
theorem dL_stations_391 : decode cL_stations 391 = .ok (.aload 4, 2) := by decide +kernel
theorem dL_stations_393 : decode cL_stations 393 = .ok (.bipush 8, 2) := by decide +kernel
theorem dL_stations_395 : decode cL_stations 395 = .ok (.iload 10, 2) := by decide +kernel
theorem dL_stations_397 : decode cL_stations 397 = .ok (.imul, 1) := by decide +kernel
theorem dL_stations_398 : decode cL_stations 398 = .ok (.iload 7, 2) := by decide +kernel
theorem dL_stations_400 : decode cL_stations 400 = .ok (.iadd, 1) := by decide +kernel
theorem dL_stations_401 : decode cL_stations 401 = .ok (.iaload, 1) := by decide +kernel
theorem dL_stations_402 : decode cL_stations 402 = .ok (.goto 4, 3) := by decide +kernel
theorem dL_stations_405 : decode cL_stations 405 = .ok (.iconst 0, 1) := by decide +kernel
theorem dL_stations_406 : decode cL_stations 406 = .ok (.istore 12, 2) := by decide +kernel
theorem dL_stations_408 : decode cL_stations 408 = .ok (.iload 9, 2) := by decide +kernel
theorem dL_stations_410 : decode cL_stations 410 = .ok (.ifCond .eq 121, 3) := by decide +kernel
theorem dL_stations_413 : decode cL_stations 413 = .ok (.aload_n 0, 1) := by decide +kernel
theorem dL_stations_414 : decode cL_stations 414 = .ok (.iload 7, 2) := by decide +kernel
theorem dL_stations_416 : decode cL_stations 416 = .ok (.iload 10, 2) := by decide +kernel
theorem dL_stations_418 : decode cL_stations 418 = .ok (.iconst 0, 1) := by decide +kernel
theorem dL_stations_419 : decode cL_stations 419 = .ok (.invokevirtual 38, 3) := by decide +kernel
theorem dL_stations_422 : decode cL_stations 422 = .ok (.iload 11, 2) := by decide +kernel
theorem dL_stations_424 : decode cL_stations 424 = .ok (.ifCond .eq 12, 3) := by decide +kernel
theorem dL_stations_427 : decode cL_stations 427 = .ok (.iload 12, 2) := by decide +kernel
theorem dL_stations_429 : decode cL_stations 429 = .ok (.sipush 256, 3) := by decide +kernel
theorem dL_stations_432 : decode cL_stations 432 = .ok (.irem, 1) := by decide +kernel
theorem dL_stations_433 : decode cL_stations 433 = .ok (.goto 4, 3) := by decide +kernel
theorem dL_stations_436 : decode cL_stations 436 = .ok (.iconst (-1), 1) := by decide +kernel
theorem dL_stations_437 : decode cL_stations 437 = .ok (.if_icmp .ne 94, 3) := by decide +kernel
theorem dL_stations_440 : decode cL_stations 440 = .ok (.aload_n 0, 1) := by decide +kernel
theorem dL_stations_441 : decode cL_stations 441 = .ok (.iload 7, 2) := by decide +kernel
theorem dL_stations_443 : decode cL_stations 443 = .ok (.iload 10, 2) := by decide +kernel
theorem dL_stations_445 : decode cL_stations 445 = .ok (.iconst 1, 1) := by decide +kernel
theorem dL_stations_446 : decode cL_stations 446 = .ok (.invokevirtual 38, 3) := by decide +kernel
theorem dL_stations_449 : decode cL_stations 449 = .ok (.iload 11, 2) := by decide +kernel
theorem dL_stations_451 : decode cL_stations 451 = .ok (.ifCond .eq 15, 3) := by decide +kernel
theorem dL_stations_454 : decode cL_stations 454 = .ok (.iload 12, 2) := by decide +kernel
theorem dL_stations_456 : decode cL_stations 456 = .ok (.sipush 256, 3) := by decide +kernel
theorem dL_stations_459 : decode cL_stations 459 = .ok (.idiv, 1) := by decide +kernel
theorem dL_stations_460 : decode cL_stations 460 = .ok (.bipush 8, 2) := by decide +kernel
theorem dL_stations_462 : decode cL_stations 462 = .ok (.irem, 1) := by decide +kernel
theorem dL_stations_463 : decode cL_stations 463 = .ok (.goto 4, 3) := by decide +kernel
theorem dL_stations_466 : decode cL_stations 466 = .ok (.iconst (-1), 1) := by decide +kernel
theorem dL_stations_467 : decode cL_stations 467 = .ok (.if_icmp .ne 64, 3) := by decide +kernel
theorem dL_stations_470 : decode cL_stations 470 = .ok (.aload_n 0, 1) := by decide +kernel
theorem dL_stations_471 : decode cL_stations 471 = .ok (.iload 7, 2) := by decide +kernel
theorem dL_stations_473 : decode cL_stations 473 = .ok (.iload 10, 2) := by decide +kernel
theorem dL_stations_475 : decode cL_stations 475 = .ok (.iconst 2, 1) := by decide +kernel
theorem dL_stations_476 : decode cL_stations 476 = .ok (.invokevirtual 38, 3) := by decide +kernel
theorem dL_stations_479 : decode cL_stations 479 = .ok (.iload 11, 2) := by decide +kernel
theorem dL_stations_481 : decode cL_stations 481 = .ok (.ifCond .eq 15, 3) := by decide +kernel
theorem dL_stations_484 : decode cL_stations 484 = .ok (.iload 12, 2) := by decide +kernel
theorem dL_stations_486 : decode cL_stations 486 = .ok (.sipush 2048, 3) := by decide +kernel
theorem dL_stations_489 : decode cL_stations 489 = .ok (.idiv, 1) := by decide +kernel
theorem dL_stations_490 : decode cL_stations 490 = .ok (.bipush 8, 2) := by decide +kernel
theorem dL_stations_492 : decode cL_stations 492 = .ok (.irem, 1) := by decide +kernel
theorem dL_stations_493 : decode cL_stations 493 = .ok (.goto 4, 3) := by decide +kernel
theorem dL_stations_496 : decode cL_stations 496 = .ok (.iconst (-1), 1) := by decide +kernel
theorem dL_stations_497 : decode cL_stations 497 = .ok (.if_icmp .ne 34, 3) := by decide +kernel
theorem dL_stations_500 : decode cL_stations 500 = .ok (.aload_n 0, 1) := by decide +kernel
theorem dL_stations_501 : decode cL_stations 501 = .ok (.iload 7, 2) := by decide +kernel
theorem dL_stations_503 : decode cL_stations 503 = .ok (.iload 10, 2) := by decide +kernel
theorem dL_stations_505 : decode cL_stations 505 = .ok (.iconst 3, 1) := by decide +kernel
theorem dL_stations_506 : decode cL_stations 506 = .ok (.invokevirtual 38, 3) := by decide +kernel
theorem dL_stations_509 : decode cL_stations 509 = .ok (.iload 11, 2) := by decide +kernel
theorem dL_stations_511 : decode cL_stations 511 = .ok (.ifCond .eq 12, 3) := by decide +kernel
theorem dL_stations_514 : decode cL_stations 514 = .ok (.iload 12, 2) := by decide +kernel
theorem dL_stations_516 : decode cL_stations 516 = .ok (.sipush 16384, 3) := by decide +kernel
theorem dL_stations_519 : decode cL_stations 519 = .ok (.idiv, 1) := by decide +kernel
theorem dL_stations_520 : decode cL_stations 520 = .ok (.goto 4, 3) := by decide +kernel
theorem dL_stations_523 : decode cL_stations 523 = .ok (.iconst (-1), 1) := by decide +kernel
theorem dL_stations_524 : decode cL_stations 524 = .ok (.if_icmp .ne 7, 3) := by decide +kernel
theorem dL_stations_527 : decode cL_stations 527 = .ok (.iconst 1, 1) := by decide +kernel
theorem dL_stations_528 : decode cL_stations 528 = .ok (.goto 4, 3) := by decide +kernel
theorem dL_stations_531 : decode cL_stations 531 = .ok (.iconst 0, 1) := by decide +kernel
theorem dL_stations_532 : decode cL_stations 532 = .ok (.istore 9, 2) := by decide +kernel
theorem dL_stations_534 : decode cL_stations 534 = .ok (.iinc 10 1, 3) := by decide +kernel
theorem dL_stations_537 : decode cL_stations 537 = .ok (.goto (-312), 3) := by decide +kernel
theorem dL_stations_540 : decode cL_stations 540 = .ok (.aload_n 1, 1) := by decide +kernel
theorem dL_stations_541 : decode cL_stations 541 = .ok (.bipush 32, 2) := by decide +kernel
theorem dL_stations_543 : decode cL_stations 543 = .ok (.iload 7, 2) := by decide +kernel
theorem dL_stations_545 : decode cL_stations 545 = .ok (.iadd, 1) := by decide +kernel
theorem dL_stations_546 : decode cL_stations 546 = .ok (.iaload, 1) := by decide +kernel
theorem dL_stations_547 : decode cL_stations 547 = .ok (.ifCond .le 15, 3) := by decide +kernel
theorem dL_stations_550 : decode cL_stations 550 = .ok (.aload 5, 2) := by decide +kernel
theorem dL_stations_552 : decode cL_stations 552 = .ok (.aload_n 3, 1) := by decide +kernel
theorem dL_stations_553 : decode cL_stations 553 = .ok (.iload 7, 2) := by decide +kernel
theorem dL_stations_555 : decode cL_stations 555 = .ok (.invokestatic 10, 3) := by decide +kernel
theorem dL_stations_558 : decode cL_stations 558 = .ok (.iaload, 1) := by decide +kernel
theorem dL_stations_559 : decode cL_stations 559 = .ok (.goto 4, 3) := by decide +kernel
theorem dL_stations_562 : decode cL_stations 562 = .ok (.iconst 0, 1) := by decide +kernel
theorem dL_stations_563 : decode cL_stations 563 = .ok (.istore 10, 2) := by decide +kernel
theorem dL_stations_565 : decode cL_stations 565 = .ok (.aload_n 1, 1) := by decide +kernel
theorem dL_stations_566 : decode cL_stations 566 = .ok (.bipush 40, 2) := by decide +kernel
theorem dL_stations_568 : decode cL_stations 568 = .ok (.iload 7, 2) := by decide +kernel
theorem dL_stations_570 : decode cL_stations 570 = .ok (.iadd, 1) := by decide +kernel
theorem dL_stations_571 : decode cL_stations 571 = .ok (.iaload, 1) := by decide +kernel
theorem dL_stations_572 : decode cL_stations 572 = .ok (.ifCond .lt 7, 3) := by decide +kernel
theorem dL_stations_575 : decode cL_stations 575 = .ok (.iconst 1, 1) := by decide +kernel
theorem dL_stations_576 : decode cL_stations 576 = .ok (.goto 72, 3) := by decide +kernel
theorem dL_stations_579 : decode cL_stations 579 = .ok (.iload 8, 2) := by decide +kernel
theorem dL_stations_581 : decode cL_stations 581 = .ok (.iconst 2, 1) := by decide +kernel
theorem dL_stations_582 : decode cL_stations 582 = .ok (.if_icmp .ne 7, 3) := by decide +kernel
theorem dL_stations_585 : decode cL_stations 585 = .ok (.iconst 2, 1) := by decide +kernel
theorem dL_stations_586 : decode cL_stations 586 = .ok (.goto 62, 3) := by decide +kernel
theorem dL_stations_589 : decode cL_stations 589 = .ok (.iload 8, 2) := by decide +kernel
theorem dL_stations_591 : decode cL_stations 591 = .ok (.iconst 1, 1) := by decide +kernel
theorem dL_stations_592 : decode cL_stations 592 = .ok (.if_icmp .ne 7, 3) := by decide +kernel
theorem dL_stations_595 : decode cL_stations 595 = .ok (.iconst 3, 1) := by decide +kernel
theorem dL_stations_596 : decode cL_stations 596 = .ok (.goto 52, 3) := by decide +kernel
theorem dL_stations_599 : decode cL_stations 599 = .ok (.aload_n 1, 1) := by decide +kernel
theorem dL_stations_600 : decode cL_stations 600 = .ok (.bipush 32, 2) := by decide +kernel
theorem dL_stations_602 : decode cL_stations 602 = .ok (.iload 7, 2) := by decide +kernel
theorem dL_stations_604 : decode cL_stations 604 = .ok (.iadd, 1) := by decide +kernel
theorem dL_stations_605 : decode cL_stations 605 = .ok (.iaload, 1) := by decide +kernel
theorem dL_stations_606 : decode cL_stations 606 = .ok (.ifCond .ne 7, 3) := by decide +kernel
theorem dL_stations_609 : decode cL_stations 609 = .ok (.iconst 4, 1) := by decide +kernel
theorem dL_stations_610 : decode cL_stations 610 = .ok (.goto 38, 3) := by decide +kernel
theorem dL_stations_613 : decode cL_stations 613 = .ok (.iload 10, 2) := by decide +kernel
theorem dL_stations_615 : decode cL_stations 615 = .ok (.aload 6, 2) := by decide +kernel
theorem dL_stations_617 : decode cL_stations 617 = .ok (.iconst 0, 1) := by decide +kernel
theorem dL_stations_618 : decode cL_stations 618 = .ok (.iaload, 1) := by decide +kernel
theorem dL_stations_619 : decode cL_stations 619 = .ok (.if_icmp .lt 7, 3) := by decide +kernel
theorem dL_stations_622 : decode cL_stations 622 = .ok (.iconst 0, 1) := by decide +kernel
theorem dL_stations_623 : decode cL_stations 623 = .ok (.goto 25, 3) := by decide +kernel
theorem dL_stations_626 : decode cL_stations 626 = .ok (.aload 5, 2) := by decide +kernel
theorem dL_stations_628 : decode cL_stations 628 = .ok (.bipush 6, 2) := by decide +kernel
theorem dL_stations_630 : decode cL_stations 630 = .ok (.aload_n 3, 1) := by decide +kernel
theorem dL_stations_631 : decode cL_stations 631 = .ok (.iload 7, 2) := by decide +kernel
theorem dL_stations_633 : decode cL_stations 633 = .ok (.invokestatic 10, 3) := by decide +kernel
theorem dL_stations_636 : decode cL_stations 636 = .ok (.iadd, 1) := by decide +kernel
theorem dL_stations_637 : decode cL_stations 637 = .ok (.iaload, 1) := by decide +kernel
theorem dL_stations_638 : decode cL_stations 638 = .ok (.iconst 1, 1) := by decide +kernel
theorem dL_stations_639 : decode cL_stations 639 = .ok (.if_icmp .ne 7, 3) := by decide +kernel
theorem dL_stations_642 : decode cL_stations 642 = .ok (.iconst 5, 1) := by decide +kernel
theorem dL_stations_643 : decode cL_stations 643 = .ok (.goto 5, 3) := by decide +kernel
theorem dL_stations_646 : decode cL_stations 646 = .ok (.bipush 6, 2) := by decide +kernel
theorem dL_stations_648 : decode cL_stations 648 = .ok (.istore 11, 2) := by decide +kernel
theorem dL_stations_650 : decode cL_stations 650 = .ok (.iload 9, 2) := by decide +kernel
theorem dL_stations_652 : decode cL_stations 652 = .ok (.ifCond .eq 14, 3) := by decide +kernel
theorem dL_stations_655 : decode cL_stations 655 = .ok (.aload_n 0, 1) := by decide +kernel
theorem dL_stations_656 : decode cL_stations 656 = .ok (.iload 7, 2) := by decide +kernel
theorem dL_stations_658 : decode cL_stations 658 = .ok (.invokevirtual 41, 3) := by decide +kernel
theorem dL_stations_661 : decode cL_stations 661 = .ok (.iload 11, 2) := by decide +kernel
theorem dL_stations_663 : decode cL_stations 663 = .ok (.if_icmp .eq 5, 3) := by decide +kernel
theorem dL_stations_666 : decode cL_stations 666 = .ok (.iconst 0, 1) := by decide +kernel
theorem dL_stations_667 : decode cL_stations 667 = .ok (.ireturn, 1) := by decide +kernel
theorem dL_stations_668 : decode cL_stations 668 = .ok (.iinc 7 1, 3) := by decide +kernel
theorem dL_stations_671 : decode cL_stations 671 = .ok (.goto (-668), 3) := by decide +kernel
theorem dL_stations_674 : decode cL_stations 674 = .ok (.iconst 1, 1) := by decide +kernel
theorem dL_stations_675 : decode cL_stations 675 = .ok (.ireturn, 1) := by decide +kernel
theorem dL_tells_0 : decode cL_tells 0 = .ok (.bipush 10, 2) := by decide +kernel
theorem dL_tells_2 : decode cL_tells 2 = .ok (.newarray .int, 2) := by decide +kernel
theorem dL_tells_4 : decode cL_tells 4 = .ok (.astore 7, 2) := by decide +kernel
theorem dL_tells_6 : decode cL_tells 6 = .ok (.bipush (-6), 2) := by decide +kernel
theorem dL_tells_8 : decode cL_tells 8 = .ok (.istore 8, 2) := by decide +kernel
theorem dL_tells_10 : decode cL_tells 10 = .ok (.iconst 0, 1) := by decide +kernel
theorem dL_tells_11 : decode cL_tells 11 = .ok (.istore 9, 2) := by decide +kernel
theorem dL_tells_13 : decode cL_tells 13 = .ok (.iconst 0, 1) := by decide +kernel
theorem dL_tells_14 : decode cL_tells 14 = .ok (.istore 10, 2) := by decide +kernel
theorem dL_tells_16 : decode cL_tells 16 = .ok (.iload 10, 2) := by decide +kernel
theorem dL_tells_18 : decode cL_tells 18 = .ok (.bipush 6, 2) := by decide +kernel
theorem dL_tells_20 : decode cL_tells 20 = .ok (.if_icmp .ge 300, 3) := by decide +kernel
theorem dL_tells_23 : decode cL_tells 23 = .ok (.iconst 0, 1) := by decide +kernel
theorem dL_tells_24 : decode cL_tells 24 = .ok (.istore 11, 2) := by decide +kernel
theorem dL_tells_26 : decode cL_tells 26 = .ok (.iconst 0, 1) := by decide +kernel
theorem dL_tells_27 : decode cL_tells 27 = .ok (.istore 12, 2) := by decide +kernel
theorem dL_tells_29 : decode cL_tells 29 = .ok (.iconst 0, 1) := by decide +kernel
theorem dL_tells_30 : decode cL_tells 30 = .ok (.istore 13, 2) := by decide +kernel
theorem dL_tells_32 : decode cL_tells 32 = .ok (.iconst 0, 1) := by decide +kernel
theorem dL_tells_33 : decode cL_tells 33 = .ok (.istore 14, 2) := by decide +kernel
theorem dL_tells_35 : decode cL_tells 35 = .ok (.iload 14, 2) := by decide +kernel
theorem dL_tells_37 : decode cL_tells 37 = .ok (.aload 6, 2) := by decide +kernel
theorem dL_tells_39 : decode cL_tells 39 = .ok (.bipush 6, 2) := by decide +kernel
theorem dL_tells_41 : decode cL_tells 41 = .ok (.iaload, 1) := by decide +kernel
theorem dL_tells_42 : decode cL_tells 42 = .ok (.if_icmp .ge 113, 3) := by decide +kernel
theorem dL_tells_45 : decode cL_tells 45 = .ok (.iload 11, 2) := by decide +kernel
theorem dL_tells_47 : decode cL_tells 47 = .ok (.aload_n 1, 1) := by decide +kernel
theorem dL_tells_48 : decode cL_tells 48 = .ok (.iload 14, 2) := by decide +kernel
theorem dL_tells_50 : decode cL_tells 50 = .ok (.iaload, 1) := by decide +kernel
theorem dL_tells_51 : decode cL_tells 51 = .ok (.iload 10, 2) := by decide +kernel
theorem dL_tells_53 : decode cL_tells 53 = .ok (.ishr, 1) := by decide +kernel
theorem dL_tells_54 : decode cL_tells 54 = .ok (.iconst 1, 1) := by decide +kernel
theorem dL_tells_55 : decode cL_tells 55 = .ok (.iand, 1) := by decide +kernel
theorem dL_tells_56 : decode cL_tells 56 = .ok (.iload 14, 2) := by decide +kernel
theorem dL_tells_58 : decode cL_tells 58 = .ok (.ishl, 1) := by decide +kernel
theorem dL_tells_59 : decode cL_tells 59 = .ok (.ior, 1) := by decide +kernel
theorem dL_tells_60 : decode cL_tells 60 = .ok (.istore 11, 2) := by decide +kernel
theorem dL_tells_62 : decode cL_tells 62 = .ok (.iload 12, 2) := by decide +kernel
theorem dL_tells_64 : decode cL_tells 64 = .ok (.aload_n 1, 1) := by decide +kernel
theorem dL_tells_65 : decode cL_tells 65 = .ok (.bipush 40, 2) := by decide +kernel
theorem dL_tells_67 : decode cL_tells 67 = .ok (.iload 14, 2) := by decide +kernel
theorem dL_tells_69 : decode cL_tells 69 = .ok (.iadd, 1) := by decide +kernel
theorem dL_tells_70 : decode cL_tells 70 = .ok (.iaload, 1) := by decide +kernel
theorem dL_tells_71 : decode cL_tells 71 = .ok (.ifCond .lt 21, 3) := by decide +kernel
theorem dL_tells_74 : decode cL_tells 74 = .ok (.aload_n 3, 1) := by decide +kernel
theorem dL_tells_75 : decode cL_tells 75 = .ok (.iload 14, 2) := by decide +kernel
theorem dL_tells_77 : decode cL_tells 77 = .ok (.invokestatic 10, 3) := by decide +kernel
theorem dL_tells_80 : decode cL_tells 80 = .ok (.iload 10, 2) := by decide +kernel
theorem dL_tells_82 : decode cL_tells 82 = .ok (.if_icmp .ne 10, 3) := by decide +kernel
theorem dL_tells_85 : decode cL_tells 85 = .ok (.iconst 1, 1) := by decide +kernel
theorem dL_tells_86 : decode cL_tells 86 = .ok (.iload 14, 2) := by decide +kernel
theorem dL_tells_88 : decode cL_tells 88 = .ok (.ishl, 1) := by decide +kernel
theorem dL_tells_89 : decode cL_tells 89 = .ok (.goto 4, 3) := by decide +kernel
theorem dL_tells_92 : decode cL_tells 92 = .ok (.iconst 0, 1) := by decide +kernel
theorem dL_tells_93 : decode cL_tells 93 = .ok (.ior, 1) := by decide +kernel
theorem dL_tells_94 : decode cL_tells 94 = .ok (.istore 12, 2) := by decide +kernel
theorem dL_tells_96 : decode cL_tells 96 = .ok (.iconst 0, 1) := by decide +kernel
theorem dL_tells_97 : decode cL_tells 97 = .ok (.istore 15, 2) := by decide +kernel
theorem dL_tells_99 : decode cL_tells 99 = .ok (.iload 15, 2) := by decide +kernel
theorem dL_tells_101 : decode cL_tells 101 = .ok (.aload_n 1, 1) := by decide +kernel
theorem dL_tells_102 : decode cL_tells 102 = .ok (.bipush 32, 2) := by decide +kernel
theorem dL_tells_104 : decode cL_tells 104 = .ok (.iload 14, 2) := by decide +kernel
theorem dL_tells_106 : decode cL_tells 106 = .ok (.iadd, 1) := by decide +kernel
theorem dL_tells_107 : decode cL_tells 107 = .ok (.iaload, 1) := by decide +kernel
theorem dL_tells_108 : decode cL_tells 108 = .ok (.if_icmp .ge 41, 3) := by decide +kernel
theorem dL_tells_111 : decode cL_tells 111 = .ok (.iload 13, 2) := by decide +kernel
theorem dL_tells_113 : decode cL_tells 113 = .ok (.aload_n 3, 1) := by decide +kernel
theorem dL_tells_114 : decode cL_tells 114 = .ok (.bipush 8, 2) := by decide +kernel
theorem dL_tells_116 : decode cL_tells 116 = .ok (.iload 15, 2) := by decide +kernel
theorem dL_tells_118 : decode cL_tells 118 = .ok (.imul, 1) := by decide +kernel
theorem dL_tells_119 : decode cL_tells 119 = .ok (.iload 14, 2) := by decide +kernel
theorem dL_tells_121 : decode cL_tells 121 = .ok (.iadd, 1) := by decide +kernel
theorem dL_tells_122 : decode cL_tells 122 = .ok (.iaload, 1) := by decide +kernel
theorem dL_tells_123 : decode cL_tells 123 = .ok (.sipush 256, 3) := by decide +kernel
theorem dL_tells_126 : decode cL_tells 126 = .ok (.idiv, 1) := by decide +kernel
theorem dL_tells_127 : decode cL_tells 127 = .ok (.bipush 8, 2) := by decide +kernel
theorem dL_tells_129 : decode cL_tells 129 = .ok (.irem, 1) := by decide +kernel
theorem dL_tells_130 : decode cL_tells 130 = .ok (.iload 10, 2) := by decide +kernel
theorem dL_tells_132 : decode cL_tells 132 = .ok (.if_icmp .ne 7, 3) := by decide +kernel
theorem dL_tells_135 : decode cL_tells 135 = .ok (.iconst 1, 1) := by decide +kernel
theorem dL_tells_136 : decode cL_tells 136 = .ok (.goto 4, 3) := by decide +kernel
theorem dL_tells_139 : decode cL_tells 139 = .ok (.iconst 0, 1) := by decide +kernel
theorem dL_tells_140 : decode cL_tells 140 = .ok (.iadd, 1) := by decide +kernel
theorem dL_tells_141 : decode cL_tells 141 = .ok (.istore 13, 2) := by decide +kernel
theorem dL_tells_143 : decode cL_tells 143 = .ok (.iinc 15 1, 3) := by decide +kernel
theorem dL_tells_146 : decode cL_tells 146 = .ok (.goto (-47), 3) := by decide +kernel
theorem dL_tells_149 : decode cL_tells 149 = .ok (.iinc 14 1, 3) := by decide +kernel
theorem dL_tells_152 : decode cL_tells 152 = .ok (.goto (-117), 3) := by decide +kernel
theorem dL_tells_155 : decode cL_tells 155 = .ok (.aload_n 0, 1) := by decide +kernel
theorem dL_tells_156 : decode cL_tells 156 = .ok (.iload 10, 2) := by decide +kernel
theorem dL_tells_158 : decode cL_tells 158 = .ok (.iconst 0, 1) := by decide +kernel
theorem dL_tells_159 : decode cL_tells 159 = .ok (.invokevirtual 45, 3) := by decide +kernel
theorem dL_tells_162 : decode cL_tells 162 = .ok (.aload 5, 2) := by decide +kernel
theorem dL_tells_164 : decode cL_tells 164 = .ok (.iload 10, 2) := by decide +kernel
theorem dL_tells_166 : decode cL_tells 166 = .ok (.iaload, 1) := by decide +kernel
theorem dL_tells_167 : decode cL_tells 167 = .ok (.if_icmp .ne 94, 3) := by decide +kernel
theorem dL_tells_170 : decode cL_tells 170 = .ok (.aload_n 0, 1) := by decide +kernel
theorem dL_tells_171 : decode cL_tells 171 = .ok (.iload 10, 2) := by decide +kernel
theorem dL_tells_173 : decode cL_tells 173 = .ok (.iconst 1, 1) := by decide +kernel
theorem dL_tells_174 : decode cL_tells 174 = .ok (.invokevirtual 45, 3) := by decide +kernel
theorem dL_tells_177 : decode cL_tells 177 = .ok (.aload 5, 2) := by decide +kernel
theorem dL_tells_179 : decode cL_tells 179 = .ok (.bipush 6, 2) := by decide +kernel
theorem dL_tells_181 : decode cL_tells 181 = .ok (.iload 10, 2) := by decide +kernel
theorem dL_tells_183 : decode cL_tells 183 = .ok (.iadd, 1) := by decide +kernel
theorem dL_tells_184 : decode cL_tells 184 = .ok (.iaload, 1) := by decide +kernel
theorem dL_tells_185 : decode cL_tells 185 = .ok (.if_icmp .ne 76, 3) := by decide +kernel
theorem dL_tells_188 : decode cL_tells 188 = .ok (.aload_n 0, 1) := by decide +kernel
theorem dL_tells_189 : decode cL_tells 189 = .ok (.iload 10, 2) := by decide +kernel
theorem dL_tells_191 : decode cL_tells 191 = .ok (.iconst 2, 1) := by decide +kernel
theorem dL_tells_192 : decode cL_tells 192 = .ok (.invokevirtual 45, 3) := by decide +kernel
theorem dL_tells_195 : decode cL_tells 195 = .ok (.iload 11, 2) := by decide +kernel
theorem dL_tells_197 : decode cL_tells 197 = .ok (.if_icmp .ne 64, 3) := by decide +kernel
theorem dL_tells_200 : decode cL_tells 200 = .ok (.aload_n 0, 1) := by decide +kernel
theorem dL_tells_201 : decode cL_tells 201 = .ok (.iload 10, 2) := by decide +kernel
theorem dL_tells_203 : decode cL_tells 203 = .ok (.iconst 3, 1) := by decide +kernel
theorem dL_tells_204 : decode cL_tells 204 = .ok (.invokevirtual 45, 3) := by decide +kernel
theorem dL_tells_207 : decode cL_tells 207 = .ok (.iload 12, 2) := by decide +kernel
theorem dL_tells_209 : decode cL_tells 209 = .ok (.if_icmp .ne 52, 3) := by decide +kernel
theorem dL_tells_212 : decode cL_tells 212 = .ok (.aload_n 0, 1) := by decide +kernel
theorem dL_tells_213 : decode cL_tells 213 = .ok (.iload 10, 2) := by decide +kernel
theorem dL_tells_215 : decode cL_tells 215 = .ok (.iconst 4, 1) := by decide +kernel
theorem dL_tells_216 : decode cL_tells 216 = .ok (.invokevirtual 45, 3) := by decide +kernel
theorem dL_tells_219 : decode cL_tells 219 = .ok (.iload 13, 2) := by decide +kernel
theorem dL_tells_221 : decode cL_tells 221 = .ok (.if_icmp .ne 40, 3) := by decide +kernel
theorem dL_tells_224 : decode cL_tells 224 = .ok (.aload_n 0, 1) := by decide +kernel
theorem dL_tells_225 : decode cL_tells 225 = .ok (.iload 10, 2) := by decide +kernel
theorem dL_tells_227 : decode cL_tells 227 = .ok (.iconst 5, 1) := by decide +kernel
theorem dL_tells_228 : decode cL_tells 228 = .ok (.invokevirtual 45, 3) := by decide +kernel
theorem dL_tells_231 : decode cL_tells 231 = .ok (.aload 5, 2) := by decide +kernel
theorem dL_tells_233 : decode cL_tells 233 = .ok (.bipush 12, 2) := by decide +kernel
theorem dL_tells_235 : decode cL_tells 235 = .ok (.iload 10, 2) := by decide +kernel
theorem dL_tells_237 : decode cL_tells 237 = .ok (.iadd, 1) := by decide +kernel
theorem dL_tells_238 : decode cL_tells 238 = .ok (.iaload, 1) := by decide +kernel
theorem dL_tells_239 : decode cL_tells 239 = .ok (.if_icmp .ne 22, 3) := by decide +kernel
theorem dL_tells_242 : decode cL_tells 242 = .ok (.aload_n 0, 1) := by decide +kernel
theorem dL_tells_243 : decode cL_tells 243 = .ok (.iload 10, 2) := by decide +kernel
theorem dL_tells_245 : decode cL_tells 245 = .ok (.bipush 6, 2) := by decide +kernel
theorem dL_tells_247 : decode cL_tells 247 = .ok (.invokevirtual 45, 3) := by decide +kernel
theorem dL_tells_250 : decode cL_tells 250 = .ok (.aload 5, 2) := by decide +kernel
theorem dL_tells_252 : decode cL_tells 252 = .ok (.bipush 18, 2) := by decide +kernel
theorem dL_tells_254 : decode cL_tells 254 = .ok (.iload 10, 2) := by decide +kernel
theorem dL_tells_256 : decode cL_tells 256 = .ok (.iadd, 1) := by decide +kernel
theorem dL_tells_257 : decode cL_tells 257 = .ok (.iaload, 1) := by decide +kernel
theorem dL_tells_258 : decode cL_tells 258 = .ok (.if_icmp .eq 5, 3) := by decide +kernel
theorem dL_tells_261 : decode cL_tells 261 = .ok (.iconst 0, 1) := by decide +kernel
theorem dL_tells_262 : decode cL_tells 262 = .ok (.ireturn, 1) := by decide +kernel
theorem dL_tells_263 : decode cL_tells 263 = .ok (.iload 13, 2) := by decide +kernel
theorem dL_tells_265 : decode cL_tells 265 = .ok (.iload 9, 2) := by decide +kernel

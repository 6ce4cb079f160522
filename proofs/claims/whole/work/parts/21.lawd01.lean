theorem d_Law_law_132 : decode k_Law_law 132 = .ok (.iaload, 1) := by decide +kernel
theorem d_Law_law_133 : decode k_Law_law 133 = .ok (.i2l, 1) := by decide +kernel
theorem d_Law_law_134 : decode k_Law_law 134 = .ok (.ldc2_w 57, 3) := by decide +kernel
theorem d_Law_law_137 : decode k_Law_law 137 = .ok (.land, 1) := by decide +kernel
theorem d_Law_law_138 : decode k_Law_law 138 = .ok (.lor, 1) := by decide +kernel
theorem d_Law_law_139 : decode k_Law_law 139 = .ok (.aload_n 0, 1) := by decide +kernel
theorem d_Law_law_140 : decode k_Law_law 140 = .ok (.iload 4, 2) := by decide +kernel
theorem d_Law_law_142 : decode k_Law_law 142 = .ok (.iconst 3, 1) := by decide +kernel
theorem d_Law_law_143 : decode k_Law_law 143 = .ok (.iadd, 1) := by decide +kernel
theorem d_Law_law_144 : decode k_Law_law 144 = .ok (.iaload, 1) := by decide +kernel
theorem d_Law_law_145 : decode k_Law_law 145 = .ok (.aload_n 3, 1) := by decide +kernel
theorem d_Law_law_146 : decode k_Law_law 146 = .ok (.invokestatic 59, 3) := by decide +kernel
theorem d_Law_law_149 : decode k_Law_law 149 = .ok (.istore 5, 2) := by decide +kernel
theorem d_Law_law_151 : decode k_Law_law 151 = .ok (.aload_n 2, 1) := by decide +kernel
theorem d_Law_law_152 : decode k_Law_law 152 = .ok (.aload_n 0, 1) := by decide +kernel
theorem d_Law_law_153 : decode k_Law_law 153 = .ok (.iload 4, 2) := by decide +kernel
theorem d_Law_law_155 : decode k_Law_law 155 = .ok (.iconst 1, 1) := by decide +kernel
theorem d_Law_law_156 : decode k_Law_law 156 = .ok (.iadd, 1) := by decide +kernel
theorem d_Law_law_157 : decode k_Law_law 157 = .ok (.iaload, 1) := by decide +kernel
theorem d_Law_law_158 : decode k_Law_law 158 = .ok (.i2l, 1) := by decide +kernel
theorem d_Law_law_159 : decode k_Law_law 159 = .ok (.bipush 32, 2) := by decide +kernel
theorem d_Law_law_161 : decode k_Law_law 161 = .ok (.lshl, 1) := by decide +kernel
theorem d_Law_law_162 : decode k_Law_law 162 = .ok (.aload_n 0, 1) := by decide +kernel
theorem d_Law_law_163 : decode k_Law_law 163 = .ok (.iload 4, 2) := by decide +kernel
theorem d_Law_law_165 : decode k_Law_law 165 = .ok (.iconst 2, 1) := by decide +kernel
theorem d_Law_law_166 : decode k_Law_law 166 = .ok (.iadd, 1) := by decide +kernel
theorem d_Law_law_167 : decode k_Law_law 167 = .ok (.iaload, 1) := by decide +kernel
theorem d_Law_law_168 : decode k_Law_law 168 = .ok (.i2l, 1) := by decide +kernel
theorem d_Law_law_169 : decode k_Law_law 169 = .ok (.ldc2_w 57, 3) := by decide +kernel
theorem d_Law_law_172 : decode k_Law_law 172 = .ok (.land, 1) := by decide +kernel
theorem d_Law_law_173 : decode k_Law_law 173 = .ok (.lor, 1) := by decide +kernel
theorem d_Law_law_174 : decode k_Law_law 174 = .ok (.aload_n 0, 1) := by decide +kernel
theorem d_Law_law_175 : decode k_Law_law 175 = .ok (.iload 4, 2) := by decide +kernel
theorem d_Law_law_177 : decode k_Law_law 177 = .ok (.iconst 3, 1) := by decide +kernel
theorem d_Law_law_178 : decode k_Law_law 178 = .ok (.iadd, 1) := by decide +kernel
theorem d_Law_law_179 : decode k_Law_law 179 = .ok (.iaload, 1) := by decide +kernel
theorem d_Law_law_180 : decode k_Law_law 180 = .ok (.invokevirtual 62, 3) := by decide +kernel
theorem d_Law_law_183 : decode k_Law_law 183 = .ok (.istore 6, 2) := by decide +kernel
theorem d_Law_law_185 : decode k_Law_law 185 = .ok (.aload_n 2, 1) := by decide +kernel
theorem d_Law_law_186 : decode k_Law_law 186 = .ok (.invokevirtual 63, 3) := by decide +kernel
theorem d_Law_law_189 : decode k_Law_law 189 = .ok (.iload 5, 2) := by decide +kernel
theorem d_Law_law_191 : decode k_Law_law 191 = .ok (.if_icmp .eq 5, 3) := by decide +kernel
theorem d_Law_law_194 : decode k_Law_law 194 = .ok (.iconst 0, 1) := by decide +kernel
theorem d_Law_law_195 : decode k_Law_law 195 = .ok (.ireturn, 1) := by decide +kernel
theorem d_Law_law_196 : decode k_Law_law 196 = .ok (.iload 5, 2) := by decide +kernel
theorem d_Law_law_198 : decode k_Law_law 198 = .ok (.ifCond .ne 15, 3) := by decide +kernel
theorem d_Law_law_201 : decode k_Law_law 201 = .ok (.aload_n 3, 1) := by decide +kernel
theorem d_Law_law_202 : decode k_Law_law 202 = .ok (.iconst 0, 1) := by decide +kernel
theorem d_Law_law_203 : decode k_Law_law 203 = .ok (.laload, 1) := by decide +kernel
theorem d_Law_law_204 : decode k_Law_law 204 = .ok (.iload 6, 2) := by decide +kernel

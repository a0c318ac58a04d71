theorem dX11_world_105 : decode cX11_world 105 = .ok (.iload 7, 2) := by decide +kernel
theorem dX11_world_107 : decode cX11_world 107 = .ok (.iconst 1, 1) := by decide +kernel
theorem dX11_world_108 : decode cX11_world 108 = .ok (.iadd, 1) := by decide +kernel
theorem dX11_world_109 : decode cX11_world 109 = .ok (.iload_n 2, 1) := by decide +kernel
theorem dX11_world_110 : decode cX11_world 110 = .ok (.iastore, 1) := by decide +kernel
theorem dX11_world_111 : decode cX11_world 111 = .ok (.aload_n 0, 1) := by decide +kernel
theorem dX11_world_112 : decode cX11_world 112 = .ok (.getfield 7, 3) := by decide +kernel
theorem dX11_world_115 : decode cX11_world 115 = .ok (.iload 7, 2) := by decide +kernel
theorem dX11_world_117 : decode cX11_world 117 = .ok (.iconst 2, 1) := by decide +kernel
theorem dX11_world_118 : decode cX11_world 118 = .ok (.iadd, 1) := by decide +kernel
theorem dX11_world_119 : decode cX11_world 119 = .ok (.iload_n 3, 1) := by decide +kernel
theorem dX11_world_120 : decode cX11_world 120 = .ok (.iastore, 1) := by decide +kernel
theorem dX11_world_121 : decode cX11_world 121 = .ok (.aload_n 0, 1) := by decide +kernel
theorem dX11_world_122 : decode cX11_world 122 = .ok (.getfield 7, 3) := by decide +kernel
theorem dX11_world_125 : decode cX11_world 125 = .ok (.iload 7, 2) := by decide +kernel
theorem dX11_world_127 : decode cX11_world 127 = .ok (.iconst 3, 1) := by decide +kernel
theorem dX11_world_128 : decode cX11_world 128 = .ok (.iadd, 1) := by decide +kernel
theorem dX11_world_129 : decode cX11_world 129 = .ok (.iload 4, 2) := by decide +kernel
theorem dX11_world_131 : decode cX11_world 131 = .ok (.iastore, 1) := by decide +kernel
theorem dX11_world_132 : decode cX11_world 132 = .ok (.aload_n 0, 1) := by decide +kernel
theorem dX11_world_133 : decode cX11_world 133 = .ok (.getfield 7, 3) := by decide +kernel
theorem dX11_world_136 : decode cX11_world 136 = .ok (.iload 7, 2) := by decide +kernel
theorem dX11_world_138 : decode cX11_world 138 = .ok (.iconst 4, 1) := by decide +kernel
theorem dX11_world_139 : decode cX11_world 139 = .ok (.iadd, 1) := by decide +kernel
theorem dX11_world_140 : decode cX11_world 140 = .ok (.iload 5, 2) := by decide +kernel
theorem dX11_world_142 : decode cX11_world 142 = .ok (.iastore, 1) := by decide +kernel
theorem dX11_world_143 : decode cX11_world 143 = .ok (.aload_n 0, 1) := by decide +kernel
theorem dX11_world_144 : decode cX11_world 144 = .ok (.getfield 7, 3) := by decide +kernel
theorem dX11_world_147 : decode cX11_world 147 = .ok (.iload 7, 2) := by decide +kernel
theorem dX11_world_149 : decode cX11_world 149 = .ok (.iconst 5, 1) := by decide +kernel
theorem dX11_world_150 : decode cX11_world 150 = .ok (.iadd, 1) := by decide +kernel
theorem dX11_world_151 : decode cX11_world 151 = .ok (.iload 6, 2) := by decide +kernel
theorem dX11_world_153 : decode cX11_world 153 = .ok (.ifCond .eq 7, 3) := by decide +kernel
theorem dX11_world_156 : decode cX11_world 156 = .ok (.iconst 1, 1) := by decide +kernel
theorem dX11_world_157 : decode cX11_world 157 = .ok (.goto 4, 3) := by decide +kernel
theorem dX11_world_160 : decode cX11_world 160 = .ok (.iconst 0, 1) := by decide +kernel
theorem dX11_world_161 : decode cX11_world 161 = .ok (.iastore, 1) := by decide +kernel
theorem dX11_world_162 : decode cX11_world 162 = .ok (.aload_n 0, 1) := by decide +kernel
theorem dX11_world_163 : decode cX11_world 163 = .ok (.getfield 7, 3) := by decide +kernel
theorem dX11_world_166 : decode cX11_world 166 = .ok (.iconst 1, 1) := by decide +kernel
theorem dX11_world_167 : decode cX11_world 167 = .ok (.dup2, 1) := by decide +kernel
theorem dX11_world_168 : decode cX11_world 168 = .ok (.iaload, 1) := by decide +kernel
theorem dX11_world_169 : decode cX11_world 169 = .ok (.iconst 1, 1) := by decide +kernel
theorem dX11_world_170 : decode cX11_world 170 = .ok (.iadd, 1) := by decide +kernel
theorem dX11_world_171 : decode cX11_world 171 = .ok (.iastore, 1) := by decide +kernel
theorem dX11_world_172 : decode cX11_world 172 = .ok (.aload_n 0, 1) := by decide +kernel
theorem dX11_world_173 : decode cX11_world 173 = .ok (.getfield 7, 3) := by decide +kernel
theorem dX11_world_176 : decode cX11_world 176 = .ok (.iconst 1, 1) := by decide +kernel
theorem dX11_world_177 : decode cX11_world 177 = .ok (.iaload, 1) := by decide +kernel
theorem dX11_world_178 : decode cX11_world 178 = .ok (.iconst 1, 1) := by decide +kernel
theorem dX11_world_179 : decode cX11_world 179 = .ok (.isub, 1) := by decide +kernel
theorem dX11_world_180 : decode cX11_world 180 = .ok (.ireturn, 1) := by decide +kernel

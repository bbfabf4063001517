theorem dX12_shares_157 : decode cX12_shares 157 = .ok (.iload_n 3, 1) := by decide +kernel
theorem dX12_shares_158 : decode cX12_shares 158 = .ok (.iaload, 1) := by decide +kernel
theorem dX12_shares_159 : decode cX12_shares 159 = .ok (.aload_n 0, 1) := by decide +kernel
theorem dX12_shares_160 : decode cX12_shares 160 = .ok (.getfield 340, 3) := by decide +kernel
theorem dX12_shares_163 : decode cX12_shares 163 = .ok (.if_icmp .ne 73, 3) := by decide +kernel
theorem dX12_shares_166 : decode cX12_shares 166 = .ok (.aload_n 0, 1) := by decide +kernel
theorem dX12_shares_167 : decode cX12_shares 167 = .ok (.getfield 170, 3) := by decide +kernel
theorem dX12_shares_170 : decode cX12_shares 170 = .ok (.iload_n 3, 1) := by decide +kernel
theorem dX12_shares_171 : decode cX12_shares 171 = .ok (.iaload, 1) := by decide +kernel
theorem dX12_shares_172 : decode cX12_shares 172 = .ok (.aload_n 0, 1) := by decide +kernel
theorem dX12_shares_173 : decode cX12_shares 173 = .ok (.getfield 161, 3) := by decide +kernel
theorem dX12_shares_176 : decode cX12_shares 176 = .ok (.iload_n 2, 1) := by decide +kernel
theorem dX12_shares_177 : decode cX12_shares 177 = .ok (.iaload, 1) := by decide +kernel
theorem dX12_shares_178 : decode cX12_shares 178 = .ok (.iadd, 1) := by decide +kernel
theorem dX12_shares_179 : decode cX12_shares 179 = .ok (.aload_n 0, 1) := by decide +kernel
theorem dX12_shares_180 : decode cX12_shares 180 = .ok (.getfield 158, 3) := by decide +kernel
theorem dX12_shares_183 : decode cX12_shares 183 = .ok (.iload_n 3, 1) := by decide +kernel
theorem dX12_shares_184 : decode cX12_shares 184 = .ok (.iaload, 1) := by decide +kernel
theorem dX12_shares_185 : decode cX12_shares 185 = .ok (.if_icmp .le 6, 3) := by decide +kernel
theorem dX12_shares_188 : decode cX12_shares 188 = .ok (.goto 48, 3) := by decide +kernel
theorem dX12_shares_191 : decode cX12_shares 191 = .ok (.aload_n 0, 1) := by decide +kernel
theorem dX12_shares_192 : decode cX12_shares 192 = .ok (.getfield 170, 3) := by decide +kernel
theorem dX12_shares_195 : decode cX12_shares 195 = .ok (.iload_n 3, 1) := by decide +kernel
theorem dX12_shares_196 : decode cX12_shares 196 = .ok (.dup2, 1) := by decide +kernel
theorem dX12_shares_197 : decode cX12_shares 197 = .ok (.iaload, 1) := by decide +kernel
theorem dX12_shares_198 : decode cX12_shares 198 = .ok (.aload_n 0, 1) := by decide +kernel
theorem dX12_shares_199 : decode cX12_shares 199 = .ok (.getfield 161, 3) := by decide +kernel
theorem dX12_shares_202 : decode cX12_shares 202 = .ok (.iload_n 2, 1) := by decide +kernel
theorem dX12_shares_203 : decode cX12_shares 203 = .ok (.iaload, 1) := by decide +kernel
theorem dX12_shares_204 : decode cX12_shares 204 = .ok (.iadd, 1) := by decide +kernel
theorem dX12_shares_205 : decode cX12_shares 205 = .ok (.iastore, 1) := by decide +kernel
theorem dX12_shares_206 : decode cX12_shares 206 = .ok (.aload_n 0, 1) := by decide +kernel
theorem dX12_shares_207 : decode cX12_shares 207 = .ok (.getfield 164, 3) := by decide +kernel
theorem dX12_shares_210 : decode cX12_shares 210 = .ok (.iload_n 2, 1) := by decide +kernel
theorem dX12_shares_211 : decode cX12_shares 211 = .ok (.iload_n 3, 1) := by decide +kernel
theorem dX12_shares_212 : decode cX12_shares 212 = .ok (.iastore, 1) := by decide +kernel
theorem dX12_shares_213 : decode cX12_shares 213 = .ok (.aload_n 0, 1) := by decide +kernel
theorem dX12_shares_214 : decode cX12_shares 214 = .ok (.iload_n 1, 1) := by decide +kernel
theorem dX12_shares_215 : decode cX12_shares 215 = .ok (.iload_n 2, 1) := by decide +kernel
theorem dX12_shares_216 : decode cX12_shares 216 = .ok (.iconst 1, 1) := by decide +kernel
theorem dX12_shares_217 : decode cX12_shares 217 = .ok (.iadd, 1) := by decide +kernel
theorem dX12_shares_218 : decode cX12_shares 218 = .ok (.invokevirtual 446, 3) := by decide +kernel
theorem dX12_shares_221 : decode cX12_shares 221 = .ok (.aload_n 0, 1) := by decide +kernel
theorem dX12_shares_222 : decode cX12_shares 222 = .ok (.getfield 170, 3) := by decide +kernel
theorem dX12_shares_225 : decode cX12_shares 225 = .ok (.iload_n 3, 1) := by decide +kernel
theorem dX12_shares_226 : decode cX12_shares 226 = .ok (.dup2, 1) := by decide +kernel
theorem dX12_shares_227 : decode cX12_shares 227 = .ok (.iaload, 1) := by decide +kernel
theorem dX12_shares_228 : decode cX12_shares 228 = .ok (.aload_n 0, 1) := by decide +kernel
theorem dX12_shares_229 : decode cX12_shares 229 = .ok (.getfield 161, 3) := by decide +kernel
theorem dX12_shares_232 : decode cX12_shares 232 = .ok (.iload_n 2, 1) := by decide +kernel
theorem dX12_shares_233 : decode cX12_shares 233 = .ok (.iaload, 1) := by decide +kernel
theorem dX12_shares_234 : decode cX12_shares 234 = .ok (.isub, 1) := by decide +kernel
theorem dX12_shares_235 : decode cX12_shares 235 = .ok (.iastore, 1) := by decide +kernel
theorem dX12_shares_236 : decode cX12_shares 236 = .ok (.iinc 3 1, 3) := by decide +kernel
theorem dX12_shares_239 : decode cX12_shares 239 = .ok (.goto (-94), 3) := by decide +kernel
theorem dX12_shares_242 : decode cX12_shares 242 = .ok (.return_, 1) := by decide +kernel

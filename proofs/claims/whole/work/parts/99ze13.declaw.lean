/-! decode rows of the law's entry -/
theorem dL_law_2121 : decode cL_law 2121 = .ok (.ireturn, 1) := by decide +kernel
theorem dL_law_2122 : decode cL_law 2122 = .ok (.iload 5, 2) := by decide +kernel
theorem dL_law_2124 : decode cL_law 2124 = .ok (.ifCond .ne 14, 3) := by decide +kernel
theorem dL_law_2127 : decode cL_law 2127 = .ok (.aload_n 3, 1) := by decide +kernel
theorem dL_law_2128 : decode cL_law 2128 = .ok (.iconst 0, 1) := by decide +kernel
theorem dL_law_2129 : decode cL_law 2129 = .ok (.laload, 1) := by decide +kernel
theorem dL_law_2130 : decode cL_law 2130 = .ok (.lload 6, 2) := by decide +kernel
theorem dL_law_2132 : decode cL_law 2132 = .ok (.lcmp, 1) := by decide +kernel
theorem dL_law_2133 : decode cL_law 2133 = .ok (.ifCond .eq 5, 3) := by decide +kernel
theorem dL_law_2136 : decode cL_law 2136 = .ok (.iconst 0, 1) := by decide +kernel
theorem dL_law_2137 : decode cL_law 2137 = .ok (.ireturn, 1) := by decide +kernel
theorem dL_law_2138 : decode cL_law 2138 = .ok (.goto 1030, 3) := by decide +kernel
theorem dL_law_2141 : decode cL_law 2141 = .ok (.aload_n 1, 1) := by decide +kernel
theorem dL_law_2142 : decode cL_law 2142 = .ok (.aload_n 0, 1) := by decide +kernel
theorem dL_law_2143 : decode cL_law 2143 = .ok (.iload 4, 2) := by decide +kernel
theorem dL_law_2145 : decode cL_law 2145 = .ok (.iconst 1, 1) := by decide +kernel
theorem dL_law_2146 : decode cL_law 2146 = .ok (.iadd, 1) := by decide +kernel
theorem dL_law_2147 : decode cL_law 2147 = .ok (.iaload, 1) := by decide +kernel
theorem dL_law_2148 : decode cL_law 2148 = .ok (.aload_n 0, 1) := by decide +kernel
theorem dL_law_2149 : decode cL_law 2149 = .ok (.iload 4, 2) := by decide +kernel
theorem dL_law_2151 : decode cL_law 2151 = .ok (.iconst 2, 1) := by decide +kernel
theorem dL_law_2152 : decode cL_law 2152 = .ok (.iadd, 1) := by decide +kernel
theorem dL_law_2153 : decode cL_law 2153 = .ok (.iaload, 1) := by decide +kernel
theorem dL_law_2154 : decode cL_law 2154 = .ok (.aload_n 3, 1) := by decide +kernel
theorem dL_law_2155 : decode cL_law 2155 = .ok (.invokestatic 252, 3) := by decide +kernel
theorem dL_law_2158 : decode cL_law 2158 = .ok (.istore 5, 2) := by decide +kernel
theorem dL_law_2160 : decode cL_law 2160 = .ok (.aload_n 2, 1) := by decide +kernel
theorem dL_law_2161 : decode cL_law 2161 = .ok (.aload_n 0, 1) := by decide +kernel
theorem dL_law_2162 : decode cL_law 2162 = .ok (.iload 4, 2) := by decide +kernel
theorem dL_law_2164 : decode cL_law 2164 = .ok (.iconst 1, 1) := by decide +kernel
theorem dL_law_2165 : decode cL_law 2165 = .ok (.iadd, 1) := by decide +kernel
theorem dL_law_2166 : decode cL_law 2166 = .ok (.iaload, 1) := by decide +kernel
theorem dL_law_2167 : decode cL_law 2167 = .ok (.aload_n 0, 1) := by decide +kernel
theorem dL_law_2168 : decode cL_law 2168 = .ok (.iload 4, 2) := by decide +kernel
theorem dL_law_2170 : decode cL_law 2170 = .ok (.iconst 2, 1) := by decide +kernel
theorem dL_law_2171 : decode cL_law 2171 = .ok (.iadd, 1) := by decide +kernel
theorem dL_law_2172 : decode cL_law 2172 = .ok (.iaload, 1) := by decide +kernel
theorem dL_law_2173 : decode cL_law 2173 = .ok (.invokevirtual 254, 3) := by decide +kernel
theorem dL_law_2176 : decode cL_law 2176 = .ok (.istore 6, 2) := by decide +kernel
theorem dL_law_2178 : decode cL_law 2178 = .ok (.aload_n 2, 1) := by decide +kernel
theorem dL_law_2179 : decode cL_law 2179 = .ok (.invokevirtual 159, 3) := by decide +kernel
theorem dL_law_2182 : decode cL_law 2182 = .ok (.iload 5, 2) := by decide +kernel
theorem dL_law_2184 : decode cL_law 2184 = .ok (.if_icmp .eq 5, 3) := by decide +kernel
theorem dL_law_2187 : decode cL_law 2187 = .ok (.iconst 0, 1) := by decide +kernel
theorem dL_law_2188 : decode cL_law 2188 = .ok (.ireturn, 1) := by decide +kernel
theorem dL_law_2189 : decode cL_law 2189 = .ok (.iload 5, 2) := by decide +kernel
theorem dL_law_2191 : decode cL_law 2191 = .ok (.ifCond .ne 15, 3) := by decide +kernel
theorem dL_law_2194 : decode cL_law 2194 = .ok (.aload_n 3, 1) := by decide +kernel
theorem dL_law_2195 : decode cL_law 2195 = .ok (.iconst 0, 1) := by decide +kernel
theorem dL_law_2196 : decode cL_law 2196 = .ok (.laload, 1) := by decide +kernel
theorem dL_law_2197 : decode cL_law 2197 = .ok (.iload 6, 2) := by decide +kernel
theorem dL_law_2199 : decode cL_law 2199 = .ok (.i2l, 1) := by decide +kernel
theorem dL_law_2200 : decode cL_law 2200 = .ok (.lcmp, 1) := by decide +kernel
theorem dL_law_2201 : decode cL_law 2201 = .ok (.ifCond .eq 5, 3) := by decide +kernel
theorem dL_law_2204 : decode cL_law 2204 = .ok (.iconst 0, 1) := by decide +kernel
theorem dL_law_2205 : decode cL_law 2205 = .ok (.ireturn, 1) := by decide +kernel
theorem dL_law_2206 : decode cL_law 2206 = .ok (.goto 962, 3) := by decide +kernel
theorem dL_law_2209 : decode cL_law 2209 = .ok (.aload_n 1, 1) := by decide +kernel
theorem dL_law_2210 : decode cL_law 2210 = .ok (.aload_n 0, 1) := by decide +kernel
theorem dL_law_2211 : decode cL_law 2211 = .ok (.iload 4, 2) := by decide +kernel
theorem dL_law_2213 : decode cL_law 2213 = .ok (.iconst 1, 1) := by decide +kernel
theorem dL_law_2214 : decode cL_law 2214 = .ok (.iadd, 1) := by decide +kernel
theorem dL_law_2215 : decode cL_law 2215 = .ok (.iaload, 1) := by decide +kernel
theorem dL_law_2216 : decode cL_law 2216 = .ok (.aload_n 0, 1) := by decide +kernel
theorem dL_law_2217 : decode cL_law 2217 = .ok (.iload 4, 2) := by decide +kernel
theorem dL_law_2219 : decode cL_law 2219 = .ok (.iconst 2, 1) := by decide +kernel
theorem dL_law_2220 : decode cL_law 2220 = .ok (.iadd, 1) := by decide +kernel
theorem dL_law_2221 : decode cL_law 2221 = .ok (.iaload, 1) := by decide +kernel
theorem dL_law_2222 : decode cL_law 2222 = .ok (.aload_n 0, 1) := by decide +kernel
theorem dL_law_2223 : decode cL_law 2223 = .ok (.iload 4, 2) := by decide +kernel
theorem dL_law_2225 : decode cL_law 2225 = .ok (.iconst 3, 1) := by decide +kernel
theorem dL_law_2226 : decode cL_law 2226 = .ok (.iadd, 1) := by decide +kernel
theorem dL_law_2227 : decode cL_law 2227 = .ok (.iaload, 1) := by decide +kernel
theorem dL_law_2228 : decode cL_law 2228 = .ok (.aload_n 0, 1) := by decide +kernel
theorem dL_law_2229 : decode cL_law 2229 = .ok (.iload 4, 2) := by decide +kernel
theorem dL_law_2231 : decode cL_law 2231 = .ok (.iconst 4, 1) := by decide +kernel
theorem dL_law_2232 : decode cL_law 2232 = .ok (.iadd, 1) := by decide +kernel
theorem dL_law_2233 : decode cL_law 2233 = .ok (.iaload, 1) := by decide +kernel
theorem dL_law_2234 : decode cL_law 2234 = .ok (.aload_n 0, 1) := by decide +kernel
theorem dL_law_2235 : decode cL_law 2235 = .ok (.iload 4, 2) := by decide +kernel
theorem dL_law_2237 : decode cL_law 2237 = .ok (.iconst 5, 1) := by decide +kernel
theorem dL_law_2238 : decode cL_law 2238 = .ok (.iadd, 1) := by decide +kernel
theorem dL_law_2239 : decode cL_law 2239 = .ok (.iaload, 1) := by decide +kernel
theorem dL_law_2240 : decode cL_law 2240 = .ok (.aload_n 0, 1) := by decide +kernel
theorem dL_law_2241 : decode cL_law 2241 = .ok (.iload 4, 2) := by decide +kernel
theorem dL_law_2243 : decode cL_law 2243 = .ok (.bipush 6, 2) := by decide +kernel
theorem dL_law_2245 : decode cL_law 2245 = .ok (.iadd, 1) := by decide +kernel
theorem dL_law_2246 : decode cL_law 2246 = .ok (.iaload, 1) := by decide +kernel
theorem dL_law_2247 : decode cL_law 2247 = .ok (.ifCond .eq 7, 3) := by decide +kernel
theorem dL_law_2250 : decode cL_law 2250 = .ok (.iconst 1, 1) := by decide +kernel
theorem dL_law_2251 : decode cL_law 2251 = .ok (.goto 4, 3) := by decide +kernel
theorem dL_law_2254 : decode cL_law 2254 = .ok (.iconst 0, 1) := by decide +kernel
theorem dL_law_2255 : decode cL_law 2255 = .ok (.aload_n 3, 1) := by decide +kernel
theorem dL_law_2256 : decode cL_law 2256 = .ok (.invokestatic 255, 3) := by decide +kernel
theorem dL_law_2259 : decode cL_law 2259 = .ok (.istore 5, 2) := by decide +kernel
theorem dL_law_2261 : decode cL_law 2261 = .ok (.aload_n 2, 1) := by decide +kernel
theorem dL_law_2262 : decode cL_law 2262 = .ok (.aload_n 0, 1) := by decide +kernel
theorem dL_law_2263 : decode cL_law 2263 = .ok (.iload 4, 2) := by decide +kernel
theorem dL_law_2265 : decode cL_law 2265 = .ok (.iconst 1, 1) := by decide +kernel
theorem dL_law_2266 : decode cL_law 2266 = .ok (.iadd, 1) := by decide +kernel

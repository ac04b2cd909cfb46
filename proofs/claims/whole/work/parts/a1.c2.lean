/-! THE LAW: its cases -/
section LawCases
variable {S : Sx} {k n : Nat} {g : Mm} {d : Nat} {l : Launch} {E : Ey} {n0 j : Nat} {xs : Nat → Int32} {a0 b0 : Option Value}
set_option maxRecDepth 10000 in
theorem lc_end (hS : Kx S l E lay NC cL_law_ RL 7 d) (hd : 100 ≤ d) (hX : Sc S n0 xs) (hj : j + 6 ≤ n0) (hn0 : n0 ≤ 3072) (hk : k + 1 ≤ S.R.cells) (hn : n + 6 ≤ S.R.slots) (hI : Iv g) (h : ∀ (g' : Mm) (a b : Option Value) (k' n' : Nat), k' ≤ k + 1 → n' ≤ n + 6 → Iv g' → J S k' n' g' 3138 (lsL j a b) []) : J S k n g 1821 (lsL j a0 b0) [] := by
  refine J_aload_n hS dL_law__1821 rfl ?_
  refine J_callV0 (X' := fun _ _ => False) hS dL_law__1822 mvL_229 ob1 rfl (by omega) (by decide) (by decide) ⟨by omega, by omega⟩ (fun _ _ q => q.elim) (p_end hI (fun v G hN => ?_))
  show J S k n G 1825 (lsL j a0 b0) [.int v]
  refine J_aload_n hS dL_law__1825 rfl ?_
  refine J_callV0 (X' := fun _ _ => False) (st := [.int v]) hS dL_law__1826 mvL_232 ob162 rfl (by omega) (by decide) (Nat.le_of_ble_eq_true rfl) ⟨by omega, by omega⟩ (fun _ _ q => q.elim) (hN _ _ (fun g' hI' => ?_))
  show J S k n g' 1829 (lsL j a0 b0) [.int v, .int v]
  exact J_icmp_eq (tgt := 3138) hS dL_law__1829 (by decide) (fun _ => h g' _ _ _ _ (by omega) (by omega) hI') (fun c => absurd rfl c)
set_option maxRecDepth 10000 in
theorem lc_gap (hS : Kx S l E lay NC cL_law_ RL 7 d) (hd : 100 ≤ d) (hX : Sc S n0 xs) (hj : j + 6 ≤ n0) (hn0 : n0 ≤ 3072) (hk : k + 1 ≤ S.R.cells) (hn : n + 6 ≤ S.R.slots) (hI : Iv g) (h : ∀ (g' : Mm) (a b : Option Value) (k' n' : Nat), k' ≤ k + 1 → n' ≤ n + 6 → Iv g' → J S k' n' g' 3138 (lsL j a b) []) : J S k n g 1834 (lsL j a0 b0) [] := by
  refine J_aload_n hS dL_law__1834 rfl ?_
  refine J_arg hS hX 1 dL_law__1835 dL_law__1836 dL_law__1838 dL_law__1839 dL_law__1840 rfl rfl rfl (by omega) (by omega) ?_
  refine J_arg hS hX 2 dL_law__1841 dL_law__1842 dL_law__1844 dL_law__1845 dL_law__1846 rfl rfl rfl (by omega) (by omega) ?_
  refine J_aload_n hS dL_law__1847 rfl ?_
  show J S k n g 1848 (lsL j a0 b0) (([.ref 1, .int (xs (j + 1)), .int (xs (j + 2)), .ref 219] : List Value).reverse ++ [])
  refine J_callSW (X' := fun _ _ => False) hS dL_law__1848 msw_gap rfl (by omega) (by decide) (by decide) ⟨hk, hn⟩ (fun _ _ q => q.elim) (p_gap hI (fun kk G hN => ?_))
  show J S (k + 1) (n + 6) G 1851 (lsL j a0 b0) [.int kk]
  refine J_istore (lt := fun z => lsL j (some (.int z)) b0) hS dL_law__1851 (Nat.le_of_ble_eq_true rfl) (fun _ => rfl) (fun z ez => ?_)
  subst ez
  refine J_aload_n hS dL_law__1853 rfl ?_
  refine J_arg hS hX 1 dL_law__1854 dL_law__1855 dL_law__1857 dL_law__1858 dL_law__1859 rfl rfl rfl (by omega) (by omega) ?_
  refine J_arg hS hX 2 dL_law__1860 dL_law__1861 dL_law__1863 dL_law__1864 dL_law__1865 rfl rfl rfl (by omega) (by omega) ?_
  refine J_callV2 (X' := fun _ _ => False) hS dL_law__1866 mvL_235 ob162 rfl (by omega) (by decide) (by decide) ⟨hk, hn⟩ (fun _ _ q => q.elim) (hN _ _ (fun g' b hI' ht hb => ?_))
  show J S (k + 1) (n + 6) g' 1869 (lsL j (some (.int z)) b0) [.int b]
  refine J_istore (lt := fun v => lsL j (some (.int z)) (some (.int v))) hS dL_law__1869 (Nat.le_of_ble_eq_true rfl) (fun _ => rfl) (fun v ev => ?_)
  subst ev
  exact J_tail (pc := 1871) hS hd hk hn dL_law__1871 dL_law__1872 mvL_151 (by decide) dL_law__1875 dL_law__1877 (by decide) dL_law__1882 dL_law__1884 (by decide) dL_law__1887 dL_law__1888 dL_law__1889 dL_law__1890 dL_law__1892 dL_law__1893 dL_law__1894 (by decide) dL_law__1899 (by decide) ht hb (h g' _ _ _ _ (Nat.le_refl _) (Nat.le_refl _) hI')
set_option maxRecDepth 10000 in
theorem lc_fits (hS : Kx S l E lay NC cL_law_ RL 7 d) (hd : 100 ≤ d) (hX : Sc S n0 xs) (hj : j + 6 ≤ n0) (hn0 : n0 ≤ 3072) (hk : k + 1 ≤ S.R.cells) (hn : n + 6 ≤ S.R.slots) (hI : Iv g) (h : ∀ (g' : Mm) (a b : Option Value) (k' n' : Nat), k' ≤ k + 1 → n' ≤ n + 6 → Iv g' → J S k' n' g' 3138 (lsL j a b) []) : J S k n g 1902 (lsL j a0 b0) [] := by
  refine J_aload_n hS dL_law__1902 rfl ?_
  refine J_arg hS hX 1 dL_law__1903 dL_law__1904 dL_law__1906 dL_law__1907 dL_law__1908 rfl rfl rfl (by omega) (by omega) ?_
  refine J_arg hS hX 2 dL_law__1909 dL_law__1910 dL_law__1912 dL_law__1913 dL_law__1914 rfl rfl rfl (by omega) (by omega) ?_
  refine J_aload_n hS dL_law__1915 rfl ?_
  show J S k n g 1916 (lsL j a0 b0) (([.ref 1, .int (xs (j + 1)), .int (xs (j + 2)), .ref 219] : List Value).reverse ++ [])
  refine J_callSW (X' := fun _ _ => False) hS dL_law__1916 msw_fits rfl (by omega) (by decide) (by decide) ⟨hk, hn⟩ (fun _ _ q => q.elim) (p_fits hI (fun kk G hN => ?_))
  show J S (k + 1) (n + 6) G 1919 (lsL j a0 b0) [.int kk]
  refine J_istore (lt := fun z => lsL j (some (.int z)) b0) hS dL_law__1919 (Nat.le_of_ble_eq_true rfl) (fun _ => rfl) (fun z ez => ?_)
  subst ez
  refine J_aload_n hS dL_law__1921 rfl ?_
  refine J_arg hS hX 1 dL_law__1922 dL_law__1923 dL_law__1925 dL_law__1926 dL_law__1927 rfl rfl rfl (by omega) (by omega) ?_
  refine J_arg hS hX 2 dL_law__1928 dL_law__1929 dL_law__1931 dL_law__1932 dL_law__1933 rfl rfl rfl (by omega) (by omega) ?_
  refine J_callV2 (X' := fun _ _ => False) hS dL_law__1934 mvL_238 ob162 rfl (by omega) (by decide) (by decide) ⟨hk, hn⟩ (fun _ _ q => q.elim) (hN _ _ (fun g' b hI' ht hb => ?_))
  show J S (k + 1) (n + 6) g' 1937 (lsL j (some (.int z)) b0) [.int b]
  refine J_istore (lt := fun v => lsL j (some (.int z)) (some (.int v))) hS dL_law__1937 (Nat.le_of_ble_eq_true rfl) (fun _ => rfl) (fun v ev => ?_)
  subst ev
  exact J_tail (pc := 1939) hS hd hk hn dL_law__1939 dL_law__1940 mvL_151 (by decide) dL_law__1943 dL_law__1945 (by decide) dL_law__1950 dL_law__1952 (by decide) dL_law__1955 dL_law__1956 dL_law__1957 dL_law__1958 dL_law__1960 dL_law__1961 dL_law__1962 (by decide) dL_law__1967 (by decide) ht hb (h g' _ _ _ _ (Nat.le_refl _) (Nat.le_refl _) hI')
set_option maxRecDepth 10000 in
theorem lc_read (hS : Kx S l E lay NC cL_law_ RL 7 d) (hd : 100 ≤ d) (hX : Sc S n0 xs) (hj : j + 6 ≤ n0) (hn0 : n0 ≤ 3072) (hk : k + 1 ≤ S.R.cells) (hn : n + 6 ≤ S.R.slots) (hI : Iv g) (h : ∀ (g' : Mm) (a b : Option Value) (k' n' : Nat), k' ≤ k + 1 → n' ≤ n + 6 → Iv g' → J S k' n' g' 3138 (lsL j a b) []) : J S k n g 1970 (lsL j a0 b0) [] := by
  refine J_aload_n hS dL_law__1970 rfl ?_
  refine J_callV0 (X' := fun _ _ => False) hS dL_law__1971 mvL_239 ob1 rfl (by omega) (by decide) (by decide) ⟨by omega, by omega⟩ (fun _ _ q => q.elim) (p_read hI (fun v G hN => ?_))
  show J S k n G 1974 (lsL j a0 b0) [.int v]
  refine J_aload_n hS dL_law__1974 rfl ?_
  refine J_callV0 (X' := fun _ _ => False) (st := [.int v]) hS dL_law__1975 mvL_242 ob162 rfl (by omega) (by decide) (Nat.le_of_ble_eq_true rfl) ⟨by omega, by omega⟩ (fun _ _ q => q.elim) (hN _ _ (fun g' hI' => ?_))
  show J S k n g' 1978 (lsL j a0 b0) [.int v, .int v]
  exact J_icmp_eq (tgt := 3138) hS dL_law__1978 (by decide) (fun _ => h g' _ _ _ _ (by omega) (by omega) hI') (fun c => absurd rfl c)
set_option maxRecDepth 10000 in
theorem lc_trial (hS : Kx S l E lay NC cL_law_ RL 7 d) (hd : 100 ≤ d) (hX : Sc S n0 xs) (hj : j + 6 ≤ n0) (hn0 : n0 ≤ 3072) (hk : k + 1 ≤ S.R.cells) (hn : n + 6 ≤ S.R.slots) (hI : Iv g) (h : ∀ (g' : Mm) (a b : Option Value) (k' n' : Nat), k' ≤ k + 1 → n' ≤ n + 6 → Iv g' → J S k' n' g' 3138 (lsL j a b) []) : J S k n g 1983 (lsL j a0 b0) [] := by
  refine J_aload_n hS dL_law__1983 rfl ?_
  refine J_arg hS hX 1 dL_law__1984 dL_law__1985 dL_law__1987 dL_law__1988 dL_law__1989 rfl rfl rfl (by omega) (by omega) ?_
  refine J_arg hS hX 2 dL_law__1990 dL_law__1991 dL_law__1993 dL_law__1994 dL_law__1995 rfl rfl rfl (by omega) (by omega) ?_
  refine J_arg hS hX 3 dL_law__1996 dL_law__1997 dL_law__1999 dL_law__2000 dL_law__2001 rfl rfl rfl (by omega) (by omega) ?_
  refine J_arg hS hX 4 dL_law__2002 dL_law__2003 dL_law__2005 dL_law__2006 dL_law__2007 rfl rfl rfl (by omega) (by omega) ?_
  refine J_aload_n hS dL_law__2008 rfl ?_
  show J S k n g 2009 (lsL j a0 b0) (([.ref 1, .int (xs (j + 1)), .int (xs (j + 2)), .int (xs (j + 3)), .int (xs (j + 4)), .ref 219] : List Value).reverse ++ [])
  refine J_callSW (X' := fun _ _ => False) hS dL_law__2009 msw_trial rfl (by omega) (by decide) (by decide) ⟨hk, hn⟩ (fun _ _ q => q.elim) (p_trial hI (fun kk G hN => ?_))
  show J S (k + 1) (n + 6) G 2012 (lsL j a0 b0) [.int kk]
  refine J_istore (lt := fun z => lsL j (some (.int z)) b0) hS dL_law__2012 (Nat.le_of_ble_eq_true rfl) (fun _ => rfl) (fun z ez => ?_)
  subst ez
  refine J_aload_n hS dL_law__2014 rfl ?_
  refine J_arg hS hX 1 dL_law__2015 dL_law__2016 dL_law__2018 dL_law__2019 dL_law__2020 rfl rfl rfl (by omega) (by omega) ?_
  refine J_arg hS hX 2 dL_law__2021 dL_law__2022 dL_law__2024 dL_law__2025 dL_law__2026 rfl rfl rfl (by omega) (by omega) ?_
  refine J_arg hS hX 3 dL_law__2027 dL_law__2028 dL_law__2030 dL_law__2031 dL_law__2032 rfl rfl rfl (by omega) (by omega) ?_
  refine J_arg hS hX 4 dL_law__2033 dL_law__2034 dL_law__2036 dL_law__2037 dL_law__2038 rfl rfl rfl (by omega) (by omega) ?_
  refine J_callV4 (X' := fun _ _ => False) hS dL_law__2039 mvL_246 ob162 rfl (by omega) (by decide) (by decide) ⟨hk, hn⟩ (fun _ _ q => q.elim) (hN _ _ (fun g' b hI' ht hb => ?_))
  show J S (k + 1) (n + 6) g' 2042 (lsL j (some (.int z)) b0) [.int b]
  refine J_istore (lt := fun v => lsL j (some (.int z)) (some (.int v))) hS dL_law__2042 (Nat.le_of_ble_eq_true rfl) (fun _ => rfl) (fun v ev => ?_)
  subst ev
  exact J_tail (pc := 2044) hS hd hk hn dL_law__2044 dL_law__2045 mvL_151 (by decide) dL_law__2048 dL_law__2050 (by decide) dL_law__2055 dL_law__2057 (by decide) dL_law__2060 dL_law__2061 dL_law__2062 dL_law__2063 dL_law__2065 dL_law__2066 dL_law__2067 (by decide) dL_law__2072 (by decide) ht hb (h g' _ _ _ _ (Nat.le_refl _) (Nat.le_refl _) hI')
set_option maxRecDepth 10000 in
theorem lc_fewest (hS : Kx S l E lay NC cL_law_ RL 7 d) (hd : 100 ≤ d) (hX : Sc S n0 xs) (hj : j + 6 ≤ n0) (hn0 : n0 ≤ 3072) (hk : k + 1 ≤ S.R.cells) (hn : n + 6 ≤ S.R.slots) (hI : Iv g) (h : ∀ (g' : Mm) (a b : Option Value) (k' n' : Nat), k' ≤ k + 1 → n' ≤ n + 6 → Iv g' → J S k' n' g' 3138 (lsL j a b) []) : J S k n g 2075 (lsL j a0 b0) [] := by
  refine J_aload_n hS dL_law__2075 rfl ?_
  refine J_arg hS hX 1 dL_law__2076 dL_law__2077 dL_law__2079 dL_law__2080 dL_law__2081 rfl rfl rfl (by omega) (by omega) ?_
  refine J_arg hS hX 2 dL_law__2082 dL_law__2083 dL_law__2085 dL_law__2086 dL_law__2087 rfl rfl rfl (by omega) (by omega) ?_
  refine J_arg hS hX 3 dL_law__2088 dL_law__2089 dL_law__2091 dL_law__2092 dL_law__2093 rfl rfl rfl (by omega) (by omega) ?_
  refine J_arg hS hX 4 dL_law__2094 dL_law__2095 dL_law__2097 dL_law__2098 dL_law__2099 rfl rfl rfl (by omega) (by omega) ?_
  refine J_aload_n hS dL_law__2100 rfl ?_
  show J S k n g 2101 (lsL j a0 b0) (([.ref 1, .int (xs (j + 1)), .int (xs (j + 2)), .int (xs (j + 3)), .int (xs (j + 4)), .ref 219] : List Value).reverse ++ [])
  refine J_callSW (X' := fun _ _ => False) hS dL_law__2101 msw_fewest rfl (by omega) (by decide) (by decide) ⟨hk, hn⟩ (fun _ _ q => q.elim) (p_fewest hI (fun kk G hN => ?_))
  show J S (k + 1) (n + 6) G 2104 (lsL j a0 b0) [.int kk]
  refine J_istore (lt := fun z => lsL j (some (.int z)) b0) hS dL_law__2104 (Nat.le_of_ble_eq_true rfl) (fun _ => rfl) (fun z ez => ?_)
  subst ez
  refine J_aload_n hS dL_law__2106 rfl ?_
  refine J_arg hS hX 1 dL_law__2107 dL_law__2108 dL_law__2110 dL_law__2111 dL_law__2112 rfl rfl rfl (by omega) (by omega) ?_
  refine J_arg hS hX 2 dL_law__2113 dL_law__2114 dL_law__2116 dL_law__2117 dL_law__2118 rfl rfl rfl (by omega) (by omega) ?_
  refine J_arg hS hX 3 dL_law__2119 dL_law__2120 dL_law__2122 dL_law__2123 dL_law__2124 rfl rfl rfl (by omega) (by omega) ?_
  refine J_arg hS hX 4 dL_law__2125 dL_law__2126 dL_law__2128 dL_law__2129 dL_law__2130 rfl rfl rfl (by omega) (by omega) ?_
  refine J_callV4 (X' := fun _ _ => False) hS dL_law__2131 mvL_249 ob162 rfl (by omega) (by decide) (by decide) ⟨hk, hn⟩ (fun _ _ q => q.elim) (hN _ _ (fun g' b hI' ht hb => ?_))
  show J S (k + 1) (n + 6) g' 2134 (lsL j (some (.int z)) b0) [.int b]
  refine J_istore (lt := fun v => lsL j (some (.int z)) (some (.int v))) hS dL_law__2134 (Nat.le_of_ble_eq_true rfl) (fun _ => rfl) (fun v ev => ?_)
  subst ev
  exact J_tail (pc := 2136) hS hd hk hn dL_law__2136 dL_law__2137 mvL_151 (by decide) dL_law__2140 dL_law__2142 (by decide) dL_law__2147 dL_law__2149 (by decide) dL_law__2152 dL_law__2153 dL_law__2154 dL_law__2155 dL_law__2157 dL_law__2158 dL_law__2159 (by decide) dL_law__2164 (by decide) ht hb (h g' _ _ _ _ (Nat.le_refl _) (Nat.le_refl _) hI')
set_option maxRecDepth 10000 in
theorem lc_needed (hS : Kx S l E lay NC cL_law_ RL 7 d) (hd : 100 ≤ d) (hX : Sc S n0 xs) (hj : j + 6 ≤ n0) (hn0 : n0 ≤ 3072) (hk : k + 1 ≤ S.R.cells) (hn : n + 6 ≤ S.R.slots) (hI : Iv g) (h : ∀ (g' : Mm) (a b : Option Value) (k' n' : Nat), k' ≤ k + 1 → n' ≤ n + 6 → Iv g' → J S k' n' g' 3138 (lsL j a b) []) : J S k n g 2167 (lsL j a0 b0) [] := by
  refine J_aload_n hS dL_law__2167 rfl ?_
  refine J_arg hS hX 1 dL_law__2168 dL_law__2169 dL_law__2171 dL_law__2172 dL_law__2173 rfl rfl rfl (by omega) (by omega) ?_
  refine J_arg hS hX 2 dL_law__2174 dL_law__2175 dL_law__2177 dL_law__2178 dL_law__2179 rfl rfl rfl (by omega) (by omega) ?_
  refine J_arg hS hX 3 dL_law__2180 dL_law__2181 dL_law__2183 dL_law__2184 dL_law__2185 rfl rfl rfl (by omega) (by omega) ?_
  refine J_aload_n hS dL_law__2186 rfl ?_
  show J S k n g 2187 (lsL j a0 b0) (([.ref 1, .int (xs (j + 1)), .int (xs (j + 2)), .int (xs (j + 3)), .ref 219] : List Value).reverse ++ [])
  refine J_callSW (X' := fun _ _ => False) hS dL_law__2187 msw_needed rfl (by omega) (by decide) (by decide) ⟨hk, hn⟩ (fun _ _ q => q.elim) (p_needed hI (fun kk G hN => ?_))
  show J S (k + 1) (n + 6) G 2190 (lsL j a0 b0) [.int kk]
  refine J_istore (lt := fun z => lsL j (some (.int z)) b0) hS dL_law__2190 (Nat.le_of_ble_eq_true rfl) (fun _ => rfl) (fun z ez => ?_)
  subst ez
  refine J_aload_n hS dL_law__2192 rfl ?_
  refine J_arg hS hX 1 dL_law__2193 dL_law__2194 dL_law__2196 dL_law__2197 dL_law__2198 rfl rfl rfl (by omega) (by omega) ?_
  refine J_arg hS hX 2 dL_law__2199 dL_law__2200 dL_law__2202 dL_law__2203 dL_law__2204 rfl rfl rfl (by omega) (by omega) ?_
  refine J_arg hS hX 3 dL_law__2205 dL_law__2206 dL_law__2208 dL_law__2209 dL_law__2210 rfl rfl rfl (by omega) (by omega) ?_
  refine J_callV3 (X' := fun _ _ => False) hS dL_law__2211 mvL_252 ob162 rfl (by omega) (by decide) (by decide) ⟨hk, hn⟩ (fun _ _ q => q.elim) (hN _ _ (fun g' b hI' ht hb => ?_))
  show J S (k + 1) (n + 6) g' 2214 (lsL j (some (.int z)) b0) [.int b]
  refine J_istore (lt := fun v => lsL j (some (.int z)) (some (.int v))) hS dL_law__2214 (Nat.le_of_ble_eq_true rfl) (fun _ => rfl) (fun v ev => ?_)
  subst ev
  exact J_tail (pc := 2216) hS hd hk hn dL_law__2216 dL_law__2217 mvL_151 (by decide) dL_law__2220 dL_law__2222 (by decide) dL_law__2227 dL_law__2229 (by decide) dL_law__2232 dL_law__2233 dL_law__2234 dL_law__2235 dL_law__2237 dL_law__2238 dL_law__2239 (by decide) dL_law__2244 (by decide) ht hb (h g' _ _ _ _ (Nat.le_refl _) (Nat.le_refl _) hI')
set_option maxRecDepth 10000 in
theorem lc_unlike (hS : Kx S l E lay NC cL_law_ RL 7 d) (hd : 100 ≤ d) (hX : Sc S n0 xs) (hj : j + 6 ≤ n0) (hn0 : n0 ≤ 3072) (hk : k + 1 ≤ S.R.cells) (hn : n + 6 ≤ S.R.slots) (hI : Iv g) (h : ∀ (g' : Mm) (a b : Option Value) (k' n' : Nat), k' ≤ k + 1 → n' ≤ n + 6 → Iv g' → J S k' n' g' 3138 (lsL j a b) []) : J S k n g 2247 (lsL j a0 b0) [] := by
  refine J_aload_n hS dL_law__2247 rfl ?_
  refine J_arg hS hX 1 dL_law__2248 dL_law__2249 dL_law__2251 dL_law__2252 dL_law__2253 rfl rfl rfl (by omega) (by omega) ?_
  refine J_arg hS hX 2 dL_law__2254 dL_law__2255 dL_law__2257 dL_law__2258 dL_law__2259 rfl rfl rfl (by omega) (by omega) ?_
  refine J_aload_n hS dL_law__2260 rfl ?_
  show J S k n g 2261 (lsL j a0 b0) (([.ref 1, .int (xs (j + 1)), .int (xs (j + 2)), .ref 219] : List Value).reverse ++ [])
  refine J_callSW (X' := fun _ _ => False) hS dL_law__2261 msw_unlike rfl (by omega) (by decide) (by decide) ⟨hk, hn⟩ (fun _ _ q => q.elim) (p_unlike hI (fun kk G hN => ?_))
  show J S (k + 1) (n + 6) G 2264 (lsL j a0 b0) [.int kk]
  refine J_istore (lt := fun z => lsL j (some (.int z)) b0) hS dL_law__2264 (Nat.le_of_ble_eq_true rfl) (fun _ => rfl) (fun z ez => ?_)
  subst ez
  refine J_aload_n hS dL_law__2266 rfl ?_
  refine J_arg hS hX 1 dL_law__2267 dL_law__2268 dL_law__2270 dL_law__2271 dL_law__2272 rfl rfl rfl (by omega) (by omega) ?_
  refine J_arg hS hX 2 dL_law__2273 dL_law__2274 dL_law__2276 dL_law__2277 dL_law__2278 rfl rfl rfl (by omega) (by omega) ?_
  refine J_callV2 (X' := fun _ _ => False) hS dL_law__2279 mvL_255 ob162 rfl (by omega) (by decide) (by decide) ⟨hk, hn⟩ (fun _ _ q => q.elim) (hN _ _ (fun g' b hI' ht hb => ?_))
  show J S (k + 1) (n + 6) g' 2282 (lsL j (some (.int z)) b0) [.int b]
  refine J_istore (lt := fun v => lsL j (some (.int z)) (some (.int v))) hS dL_law__2282 (Nat.le_of_ble_eq_true rfl) (fun _ => rfl) (fun v ev => ?_)
  subst ev
  exact J_tail (pc := 2284) hS hd hk hn dL_law__2284 dL_law__2285 mvL_151 (by decide) dL_law__2288 dL_law__2290 (by decide) dL_law__2295 dL_law__2297 (by decide) dL_law__2300 dL_law__2301 dL_law__2302 dL_law__2303 dL_law__2305 dL_law__2306 dL_law__2307 (by decide) dL_law__2312 (by decide) ht hb (h g' _ _ _ _ (Nat.le_refl _) (Nat.le_refl _) hI')
set_option maxRecDepth 10000 in
theorem lc_meets (hS : Kx S l E lay NC cL_law_ RL 7 d) (hd : 100 ≤ d) (hX : Sc S n0 xs) (hj : j + 6 ≤ n0) (hn0 : n0 ≤ 3072) (hk : k + 1 ≤ S.R.cells) (hn : n + 6 ≤ S.R.slots) (hI : Iv g) (h : ∀ (g' : Mm) (a b : Option Value) (k' n' : Nat), k' ≤ k + 1 → n' ≤ n + 6 → Iv g' → J S k' n' g' 3138 (lsL j a b) []) : J S k n g 2315 (lsL j a0 b0) [] := by
  refine J_aload_n hS dL_law__2315 rfl ?_
  refine J_arg hS hX 1 dL_law__2316 dL_law__2317 dL_law__2319 dL_law__2320 dL_law__2321 rfl rfl rfl (by omega) (by omega) ?_
  refine J_arg hS hX 2 dL_law__2322 dL_law__2323 dL_law__2325 dL_law__2326 dL_law__2327 rfl rfl rfl (by omega) (by omega) ?_
  refine J_aload_n hS dL_law__2328 rfl ?_
  show J S k n g 2329 (lsL j a0 b0) (([.ref 1, .int (xs (j + 1)), .int (xs (j + 2)), .ref 219] : List Value).reverse ++ [])
  refine J_callSW (X' := fun _ _ => False) hS dL_law__2329 msw_meets rfl (by omega) (by decide) (by decide) ⟨hk, hn⟩ (fun _ _ q => q.elim) (p_meets hI (fun kk G hN => ?_))
  show J S (k + 1) (n + 6) G 2332 (lsL j a0 b0) [.int kk]
  refine J_istore (lt := fun z => lsL j (some (.int z)) b0) hS dL_law__2332 (Nat.le_of_ble_eq_true rfl) (fun _ => rfl) (fun z ez => ?_)
  subst ez
  refine J_aload_n hS dL_law__2334 rfl ?_
  refine J_arg hS hX 1 dL_law__2335 dL_law__2336 dL_law__2338 dL_law__2339 dL_law__2340 rfl rfl rfl (by omega) (by omega) ?_
  refine J_arg hS hX 2 dL_law__2341 dL_law__2342 dL_law__2344 dL_law__2345 dL_law__2346 rfl rfl rfl (by omega) (by omega) ?_
  refine J_callV2 (X' := fun _ _ => False) hS dL_law__2347 mvL_258 ob162 rfl (by omega) (by decide) (by decide) ⟨hk, hn⟩ (fun _ _ q => q.elim) (hN _ _ (fun g' b hI' ht hb => ?_))
  show J S (k + 1) (n + 6) g' 2350 (lsL j (some (.int z)) b0) [.int b]
  refine J_istore (lt := fun v => lsL j (some (.int z)) (some (.int v))) hS dL_law__2350 (Nat.le_of_ble_eq_true rfl) (fun _ => rfl) (fun v ev => ?_)
  subst ev
  exact J_tail (pc := 2352) hS hd hk hn dL_law__2352 dL_law__2353 mvL_151 (by decide) dL_law__2356 dL_law__2358 (by decide) dL_law__2363 dL_law__2365 (by decide) dL_law__2368 dL_law__2369 dL_law__2370 dL_law__2371 dL_law__2373 dL_law__2374 dL_law__2375 (by decide) dL_law__2380 (by decide) ht hb (h g' _ _ _ _ (Nat.le_refl _) (Nat.le_refl _) hI')
set_option maxRecDepth 10000 in
theorem lc_image (hS : Kx S l E lay NC cL_law_ RL 7 d) (hd : 100 ≤ d) (hX : Sc S n0 xs) (hj : j + 6 ≤ n0) (hn0 : n0 ≤ 3072) (hk : k + 1 ≤ S.R.cells) (hn : n + 6 ≤ S.R.slots) (hI : Iv g) (h : ∀ (g' : Mm) (a b : Option Value) (k' n' : Nat), k' ≤ k + 1 → n' ≤ n + 6 → Iv g' → J S k' n' g' 3138 (lsL j a b) []) : J S k n g 2383 (lsL j a0 b0) [] := by
  refine J_aload_n hS dL_law__2383 rfl ?_
  refine J_callV0 (X' := fun _ _ => False) hS dL_law__2384 mvL_259 ob1 rfl (by omega) (by decide) (by decide) ⟨by omega, by omega⟩ (fun _ _ q => q.elim) (p_image hI (fun v G hN => ?_))
  show J S k n G 2387 (lsL j a0 b0) [.int v]
  refine J_aload_n hS dL_law__2387 rfl ?_
  refine J_callV0 (X' := fun _ _ => False) (st := [.int v]) hS dL_law__2388 mvL_262 ob162 rfl (by omega) (by decide) (Nat.le_of_ble_eq_true rfl) ⟨by omega, by omega⟩ (fun _ _ q => q.elim) (hN _ _ (fun g' hI' => ?_))
  show J S k n g' 2391 (lsL j a0 b0) [.int v, .int v]
  exact J_icmp_eq (tgt := 3138) hS dL_law__2391 (by decide) (fun _ => h g' _ _ _ _ (by omega) (by omega) hI') (fun c => absurd rfl c)
set_option maxRecDepth 10000 in
theorem lc_restore (hS : Kx S l E lay NC cL_law_ RL 7 d) (hd : 100 ≤ d) (hX : Sc S n0 xs) (hj : j + 6 ≤ n0) (hn0 : n0 ≤ 3072) (hk : k + 1 ≤ S.R.cells) (hn : n + 6 ≤ S.R.slots) (hI : Iv g) (h : ∀ (g' : Mm) (a b : Option Value) (k' n' : Nat), k' ≤ k + 1 → n' ≤ n + 6 → Iv g' → J S k' n' g' 3138 (lsL j a b) []) : J S k n g 2396 (lsL j a0 b0) [] := by
  refine J_aload_n hS dL_law__2396 rfl ?_
  refine J_callV0 (X' := fun _ _ => False) hS dL_law__2397 mvL_263 ob1 rfl (by omega) (by decide) (by decide) ⟨by omega, by omega⟩ (fun _ _ q => q.elim) (p_restore hI (fun v G hN => ?_))
  show J S k n G 2400 (lsL j a0 b0) [.int v]
  refine J_aload_n hS dL_law__2400 rfl ?_
  refine J_callV0 (X' := fun _ _ => False) (st := [.int v]) hS dL_law__2401 mvL_266 ob162 rfl (by omega) (by decide) (Nat.le_of_ble_eq_true rfl) ⟨by omega, by omega⟩ (fun _ _ q => q.elim) (hN _ _ (fun g' hI' => ?_))
  show J S k n g' 2404 (lsL j a0 b0) [.int v, .int v]
  exact J_icmp_eq (tgt := 3138) hS dL_law__2404 (by decide) (fun _ => h g' _ _ _ _ (by omega) (by omega) hI') (fun c => absurd rfl c)
set_option maxRecDepth 10000 in
theorem lc_plain (hS : Kx S l E lay NC cL_law_ RL 7 d) (hd : 100 ≤ d) (hX : Sc S n0 xs) (hj : j + 6 ≤ n0) (hn0 : n0 ≤ 3072) (hk : k + 1 ≤ S.R.cells) (hn : n + 6 ≤ S.R.slots) (hI : Iv g) (h : ∀ (g' : Mm) (a b : Option Value) (k' n' : Nat), k' ≤ k + 1 → n' ≤ n + 6 → Iv g' → J S k' n' g' 3138 (lsL j a b) []) : J S k n g 2409 (lsL j a0 b0) [] := by
  refine J_aload_n hS dL_law__2409 rfl ?_
  refine J_arg hS hX 1 dL_law__2410 dL_law__2411 dL_law__2413 dL_law__2414 dL_law__2415 rfl rfl rfl (by omega) (by omega) ?_
  refine J_aload_n hS dL_law__2416 rfl ?_
  show J S k n g 2417 (lsL j a0 b0) (([.ref 1, .int (xs (j + 1)), .ref 219] : List Value).reverse ++ [])
  refine J_callSW (X' := fun _ _ => False) hS dL_law__2417 msw_plain rfl (by omega) (by decide) (by decide) ⟨hk, hn⟩ (fun _ _ q => q.elim) (p_plain hI (fun kk G hN => ?_))
  show J S (k + 1) (n + 6) G 2420 (lsL j a0 b0) [.int kk]
  refine J_istore (lt := fun z => lsL j (some (.int z)) b0) hS dL_law__2420 (Nat.le_of_ble_eq_true rfl) (fun _ => rfl) (fun z ez => ?_)
  subst ez
  refine J_aload_n hS dL_law__2422 rfl ?_
  refine J_arg hS hX 1 dL_law__2423 dL_law__2424 dL_law__2426 dL_law__2427 dL_law__2428 rfl rfl rfl (by omega) (by omega) ?_
  refine J_callV1 (X' := fun _ _ => False) hS dL_law__2429 mvL_269 ob162 rfl (by omega) (by decide) (by decide) ⟨hk, hn⟩ (fun _ _ q => q.elim) (hN _ _ (fun g' b hI' ht hb => ?_))
  show J S (k + 1) (n + 6) g' 2432 (lsL j (some (.int z)) b0) [.int b]
  refine J_istore (lt := fun v => lsL j (some (.int z)) (some (.int v))) hS dL_law__2432 (Nat.le_of_ble_eq_true rfl) (fun _ => rfl) (fun v ev => ?_)
  subst ev
  exact J_tail (pc := 2434) hS hd hk hn dL_law__2434 dL_law__2435 mvL_151 (by decide) dL_law__2438 dL_law__2440 (by decide) dL_law__2445 dL_law__2447 (by decide) dL_law__2450 dL_law__2451 dL_law__2452 dL_law__2453 dL_law__2455 dL_law__2456 dL_law__2457 (by decide) dL_law__2462 (by decide) ht hb (h g' _ _ _ _ (Nat.le_refl _) (Nat.le_refl _) hI')
end LawCases

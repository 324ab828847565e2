theorem xr_103_0 : X_row 103 0 = some (0, (.aload_n 0, 1), (0, 0, 0)) := by decide +kernel
theorem xr_103_1 : X_row 103 1 = some (1, (.getfield 31, 3), (10, 3, 42)) := by decide +kernel
theorem xr_103_4 : X_row 103 4 = some (4, (.aload_n 0, 1), (0, 0, 0)) := by decide +kernel
theorem xr_103_5 : X_row 103 5 = some (5, (.getfield 23, 3), (10, 2, 40)) := by decide +kernel
theorem xr_103_8 : X_row 103 8 = some (8, (.invokevirtual 84, 3), (61, 16, 0)) := by decide +kernel
theorem xr_103_11 : X_row 103 11 = some (11, (.istore_n 1, 1), (0, 0, 0)) := by decide +kernel
theorem xr_103_12 : X_row 103 12 = some (12, (.aload_n 0, 1), (0, 0, 0)) := by decide +kernel
theorem xr_103_13 : X_row 103 13 = some (13, (.getfield 12, 3), (10, 0, 36)) := by decide +kernel
theorem xr_103_16 : X_row 103 16 = some (16, (.iconst 0, 1), (0, 0, 0)) := by decide +kernel
theorem xr_103_17 : X_row 103 17 = some (17, (.putfield 76, 3), (7, 1, 1)) := by decide +kernel
theorem xr_103_20 : X_row 103 20 = some (20, (.iload_n 1, 1), (0, 0, 0)) := by decide +kernel
theorem xr_103_21 : X_row 103 21 = some (21, (.ifCond .ne 5, 3), (0, 0, 0)) := by decide +kernel
theorem xr_103_24 : X_row 103 24 = some (24, (.iconst (-1), 1), (0, 0, 0)) := by decide +kernel
theorem xr_103_25 : X_row 103 25 = some (25, (.ireturn, 1), (0, 0, 0)) := by decide +kernel
theorem xr_103_26 : X_row 103 26 = some (26, (.aload_n 0, 1), (0, 0, 0)) := by decide +kernel
theorem xr_103_27 : X_row 103 27 = some (27, (.getfield 23, 3), (10, 2, 40)) := by decide +kernel
theorem xr_103_30 : X_row 103 30 = some (30, (.astore_n 2, 1), (0, 0, 0)) := by decide +kernel
theorem xr_103_31 : X_row 103 31 = some (31, (.aload_n 0, 1), (0, 0, 0)) := by decide +kernel
theorem xr_103_32 : X_row 103 32 = some (32, (.aload_n 0, 1), (0, 0, 0)) := by decide +kernel
theorem xr_103_33 : X_row 103 33 = some (33, (.getfield 19, 3), (10, 1, 38)) := by decide +kernel
theorem xr_103_36 : X_row 103 36 = some (36, (.putfield 23, 3), (10, 2, 40)) := by decide +kernel
theorem xr_103_39 : X_row 103 39 = some (39, (.aload_n 0, 1), (0, 0, 0)) := by decide +kernel
theorem xr_103_40 : X_row 103 40 = some (40, (.aload_n 2, 1), (0, 0, 0)) := by decide +kernel
theorem xr_103_41 : X_row 103 41 = some (41, (.putfield 19, 3), (10, 1, 38)) := by decide +kernel
theorem xr_103_44 : X_row 103 44 = some (44, (.aload_n 0, 1), (0, 0, 0)) := by decide +kernel
theorem xr_103_45 : X_row 103 45 = some (45, (.getfield 38, 3), (10, 4, 44)) := by decide +kernel
theorem xr_103_48 : X_row 103 48 = some (48, (.iconst 0, 1), (0, 0, 0)) := by decide +kernel
theorem xr_103_49 : X_row 103 49 = some (49, (.putfield 88, 3), (6, 0, 23)) := by decide +kernel
theorem xr_103_52 : X_row 103 52 = some (52, (.aload_n 0, 1), (0, 0, 0)) := by decide +kernel
theorem xr_103_53 : X_row 103 53 = some (53, (.invokevirtual 91, 3), (111, 18, 0)) := by decide +kernel
theorem xr_103_56 : X_row 103 56 = some (56, (.aload_n 0, 1), (0, 0, 0)) := by decide +kernel
theorem xr_103_57 : X_row 103 57 = some (57, (.getfield 19, 3), (10, 1, 38)) := by decide +kernel
theorem xr_103_60 : X_row 103 60 = some (60, (.getfield 94, 3), (0, 2, 19)) := by decide +kernel
theorem xr_103_63 : X_row 103 63 = some (63, (.ireturn, 1), (0, 0, 0)) := by decide +kernel
theorem xr_106_0 : X_row 106 0 = some (0, (.aload_n 0, 1), (0, 0, 0)) := by decide +kernel
theorem xr_106_1 : X_row 106 1 = some (1, (.getfield 38, 3), (10, 4, 44)) := by decide +kernel
theorem xr_106_4 : X_row 106 4 = some (4, (.aload_n 0, 1), (0, 0, 0)) := by decide +kernel
theorem xr_106_5 : X_row 106 5 = some (5, (.getfield 12, 3), (10, 0, 36)) := by decide +kernel
theorem xr_106_8 : X_row 106 8 = some (8, (.invokevirtual 155, 3), (82, 26, 0)) := by decide +kernel
theorem xr_106_11 : X_row 106 11 = some (11, (.istore_n 1, 1), (0, 0, 0)) := by decide +kernel
theorem xr_106_12 : X_row 106 12 = some (12, (.aload_n 0, 1), (0, 0, 0)) := by decide +kernel
theorem xr_106_13 : X_row 106 13 = some (13, (.getfield 12, 3), (10, 0, 36)) := by decide +kernel
theorem xr_106_16 : X_row 106 16 = some (16, (.iconst 0, 1), (0, 0, 0)) := by decide +kernel
theorem xr_106_17 : X_row 106 17 = some (17, (.putfield 76, 3), (7, 1, 1)) := by decide +kernel
theorem xr_106_20 : X_row 106 20 = some (20, (.iload_n 1, 1), (0, 0, 0)) := by decide +kernel
theorem xr_106_21 : X_row 106 21 = some (21, (.ifCond .ne 5, 3), (0, 0, 0)) := by decide +kernel
theorem xr_106_24 : X_row 106 24 = some (24, (.iconst (-1), 1), (0, 0, 0)) := by decide +kernel
theorem xr_106_25 : X_row 106 25 = some (25, (.ireturn, 1), (0, 0, 0)) := by decide +kernel
theorem xr_106_26 : X_row 106 26 = some (26, (.aload_n 0, 1), (0, 0, 0)) := by decide +kernel
theorem xr_106_27 : X_row 106 27 = some (27, (.invokevirtual 91, 3), (111, 18, 0)) := by decide +kernel
theorem xr_106_30 : X_row 106 30 = some (30, (.aload_n 0, 1), (0, 0, 0)) := by decide +kernel
theorem xr_106_31 : X_row 106 31 = some (31, (.getfield 38, 3), (10, 4, 44)) := by decide +kernel
theorem xr_106_34 : X_row 106 34 = some (34, (.getfield 88, 3), (6, 0, 23)) := by decide +kernel
theorem xr_106_37 : X_row 106 37 = some (37, (.ireturn, 1), (0, 0, 0)) := by decide +kernel
theorem xn_103 : X_nL 103 = 3 := by decide +kernel
theorem xf_103 : X_na 103 = 0 ∧ X_ci 103 = 10 ∧ X_rt 103 = (some .int) := by decide +kernel
theorem xn_106 : X_nL 106 = 2 := by decide +kernel
theorem xf_106 : X_na 106 = 0 ∧ X_ci 106 = 10 ∧ X_rt 106 = (some .int) := by decide +kernel
theorem c_sentence (sc : X_Sc) (S : X_S) (ot : Int → Int64) (dr : Int → Int64) (B : Nat) (B2 : Nat) (tn : Int) (fl : Int) (nc : Int) (rs : Int) (re : Int) (hgt : Int) (len : Int) (tb : Int → Int) (hO1 : S.1 1 = .inr (10, [.ref 2, .ref B, .ref B2, .ref 496, .ref 501, .ref 504, .ref 511, .ref 517, .ref 527])) (hO2 : S.1 2 = .inr (7, [.ref 3, .int (iI len)])) (hO501 : S.1 501 = .inr (6, [.int (iI tn), .ref 502, .ref 503])) (hO511 : S.1 511 = .inr (1, [.ref B, .ref 501, .int (iI fl), .ref 512, .ref 513, .ref 514, .ref 515, .ref 516])) (hO504 : S.1 504 = .inr (5, [.int (iI nc), .ref 505, .ref 506, .ref 507, .ref 508, .ref 509, .ref 510])) (hO527 : S.1 527 = .inr (9, [.ref 501, .ref 504, .int (iI rs), .int (iI re), .ref 528, .ref 529, .int (iI hgt)])) (hA502 : S.1 502 = .inl (.long, 30, .inr (.inl fun k : Nat => ot (k : Int)))) (hA503 : S.1 503 = .inl (.long, 30, .inr (.inl fun k : Nat => dr (k : Int)))) (hA3 : S.1 3 = .inl (.byte, 2000, .inl fun k : Nat => iI (tb (k : Int)))) (hl : 0 ≤ len ∧ len ≤ 2000) : X_T sc 106 (0, [(0, .ref 1)], [], S) (fun v S' => (∃ (dr1 : Int → Int64), v = some (.int (iI (-1))) ∧ X_sn tb len len.toNat = none ∧ S'.1 2 = .inr (7, [.ref 3, .int (iI 0)]) ∧ S'.1 503 = .inl (.long, 30, .inr (.inl fun k : Nat => dr1 (k : Int))) ∧ (X_Fr (fun q => q = 503 ∨ q = 2) S S')) ∨ (∃ (n1 : Int) (z1 : Int) (t1 : Int → Int64) (ot1 : Int → Int64) (dr1 : Int → Int64), v = some (.int (iI n1)) ∧ X_sn tb len len.toNat = some (n1, z1, t1) ∧ (0 ≤ n1 ∧ n1 ≤ 30) ∧ ((∀ i, 0 ≤ i → i < n1 → ot1 i = t1 i)) ∧ S'.1 2 = .inr (7, [.ref 3, .int (iI 0)]) ∧ S'.1 501 = .inr (6, [.int (iI n1), .ref 502, .ref 503]) ∧ S'.1 511 = .inr (1, [.ref B, .ref 501, .int (iI 0), .ref 512, .ref 513, .ref 514, .ref 515, .ref 516]) ∧ S'.1 504 = .inr (5, [.int (iI 0), .ref 505, .ref 506, .ref 507, .ref 508, .ref 509, .ref 510]) ∧ S'.1 527 = .inr (9, [.ref 501, .ref 504, .int (iI 0), .int (iI (-1)), .ref 528, .ref 529, .int (iI hgt)]) ∧ S'.1 502 = .inl (.long, 30, .inr (.inl fun k : Nat => ot1 (k : Int))) ∧ S'.1 503 = .inl (.long, 30, .inr (.inl fun k : Nat => dr1 (k : Int))) ∧ (X_Fr (fun q => q = 2 ∨ (501 ≤ q ∧ q ≤ 504) ∨ q = 511 ∨ q = 527) S S'))) := by
  refine X_QI (fun Q hQ => ?_)
  refine T_p xr_106_0 xn_106 (pc' := 1) (ls' := [(0, .ref 1)]) (st' := [.ref 1]) rfl ?_
  refine T_get xr_106_1 hO1 rfl (v := .ref 501) rfl (pc' := 4) rfl ?_
  refine T_p xr_106_4 xn_106 (pc' := 5) (ls' := [(0, .ref 1)]) (st' := [.ref 1, .ref 501]) rfl ?_
  refine T_get xr_106_5 hO1 rfl (v := .ref 2) rfl (pc' := 8) rfl ?_
  refine T_cv (S := S) (q := 501) xr_106_8 xf_82.1 xf_82.2.1 xn_82 (as := [.ref 2]) (r := []) rfl hO501 (Nat.le_of_ble_eq_true rfl) (Nat.le_of_ble_eq_true rfl) (pc' := 11) rfl (ls' := [(0, .ref 501), (1, .ref 2)]) rfl ?_
  refine T_mono (c_readFrom sc S ot dr tn len tb hO2 hO501 hA502 hA503 hA3 (by omega)) (fun v2240 S2241 h2242 => ?_)
  rcases h2242 with ⟨dr2243, hv2244, hp2245, ha2246, hf2247⟩ | ⟨n2248, z2249, t2250, ot2251, dr2252, hv2253, hp2254, hp2255, hp2256, ho2257, ha2258, ha2259, hf2260⟩
  · skip
    rw [hv2244]
    show X_T sc 106 (11, [(0, .ref 1)], [.int (iI 0)], S2241) _
    refine T_p xr_106_11 xn_106 (pc' := 12) (ls' := [(1, .int (iI 0)), (0, .ref 1)]) (st' := []) rfl ?_
    refine T_p xr_106_12 xn_106 (pc' := 13) (ls' := [(1, .int (iI 0)), (0, .ref 1)]) (st' := [.ref 1]) rfl ?_
    have h2261 := (hf2247.1 1 (by omega)).trans (hO1)
    refine T_get xr_106_13 h2261 rfl (v := .ref 2) rfl (pc' := 16) rfl ?_
    refine T_p xr_106_16 xn_106 (pc' := 17) (ls' := [(1, .int (iI 0)), (0, .ref 1)]) (st' := [.int (iI 0), .ref 2]) rfl ?_
    have h2262 := (hf2247.1 2 (by omega)).trans (hO2)
    refine T_put xr_106_17 h2262 rfl (Nat.le_of_ble_eq_true rfl) rfl (fs' := [.ref 3, .int (iI 0)]) rfl (pc' := 20) rfl (fun S2263 h2264 n2265 e2266 => ?_)
    refine T_p xr_106_20 xn_106 (pc' := 21) (ls' := [(1, .int (iI 0)), (0, .ref 1)]) (st' := [.int (iI 0)]) rfl ?_
    refine T_zif_nef xr_106_21 (t := 26) (pc' := 24) rfl rfl (by decide) ?_
    refine T_p xr_106_24 xn_106 (pc' := 25) (ls' := [(1, .int (iI 0)), (0, .ref 1)]) (st' := [.int (iI (-1))]) rfl ?_
    refine T_iret xr_106_25 xf_106.2.2 rfl ?_
    refine hQ _ _ ?_
    have h2267 := (n2265 503 (by decide)).trans (ha2246)
    exact Or.inl ⟨dr2243, rfl, hp2245, h2264, h2267, ((X_Fr.rf).tr (X_Fr.mono ⟨hf2247.1, hf2247.2⟩ (fun q hq => (by omega)))).tr (X_Fr.of n2265 e2266 (by omega))⟩
  · skip
    rw [hv2253]
    show X_T sc 106 (11, [(0, .ref 1)], [.int (iI 1)], S2241) _
    refine T_p xr_106_11 xn_106 (pc' := 12) (ls' := [(1, .int (iI 1)), (0, .ref 1)]) (st' := []) rfl ?_
    refine T_p xr_106_12 xn_106 (pc' := 13) (ls' := [(1, .int (iI 1)), (0, .ref 1)]) (st' := [.ref 1]) rfl ?_
    have h2268 := (hf2260.1 1 (by omega)).trans (hO1)
    refine T_get xr_106_13 h2268 rfl (v := .ref 2) rfl (pc' := 16) rfl ?_
    refine T_p xr_106_16 xn_106 (pc' := 17) (ls' := [(1, .int (iI 1)), (0, .ref 1)]) (st' := [.int (iI 0), .ref 2]) rfl ?_
    have h2269 := (hf2260.1 2 (by omega)).trans (hO2)
    refine T_put xr_106_17 h2269 rfl (Nat.le_of_ble_eq_true rfl) rfl (fs' := [.ref 3, .int (iI 0)]) rfl (pc' := 20) rfl (fun S2270 h2271 n2272 e2273 => ?_)
    refine T_p xr_106_20 xn_106 (pc' := 21) (ls' := [(1, .int (iI 1)), (0, .ref 1)]) (st' := [.int (iI 1)]) rfl ?_
    refine T_zif_net xr_106_21 (t := 26) rfl (by decide) ?_
    refine T_p xr_106_26 xn_106 (pc' := 27) (ls' := [(1, .int (iI 1)), (0, .ref 1)]) (st' := [.ref 1]) rfl ?_
    have h2274 := (n2272 1 (by decide)).trans (h2268)
    refine T_cv (S := S2270) (q := 1) xr_106_27 xf_111.1 xf_111.2.1 xn_111 (as := []) (r := []) rfl h2274 (Nat.le_of_ble_eq_true rfl) (Nat.le_of_ble_eq_true rfl) (pc' := 30) rfl (ls' := [(0, .ref 1)]) rfl ?_
    have h2275 := (n2272 511 (by decide)).trans ((hf2260.1 511 (by omega)).trans (hO511))
    have h2276 := (n2272 504 (by decide)).trans ((hf2260.1 504 (by omega)).trans (hO504))
    have h2277 := (n2272 527 (by decide)).trans ((hf2260.1 527 (by omega)).trans (hO527))
    refine T_mono (c_dropReading sc S2270 B B2 B fl nc rs re hgt h2274 h2275 h2276 h2277) (fun v2278 S2279 h2280 => ?_)
    rcases h2280 with ⟨hv2281, ho2282, ho2283, ho2284, hf2285⟩
    rw [hv2281]
    show X_T sc 106 (30, [(1, .int (iI 1)), (0, .ref 1)], [], S2279) _
    refine T_p xr_106_30 xn_106 (pc' := 31) (ls' := [(1, .int (iI 1)), (0, .ref 1)]) (st' := [.ref 1]) rfl ?_
    have h2286 := (hf2285.1 1 (by omega)).trans (h2274)
    refine T_get xr_106_31 h2286 rfl (v := .ref 501) rfl (pc' := 34) rfl ?_
    have h2287 := (hf2285.1 501 (by omega)).trans ((n2272 501 (by decide)).trans (ho2257))
    refine T_get xr_106_34 h2287 rfl (v := .int (iI n2248)) rfl (pc' := 37) rfl ?_
    refine T_iret xr_106_37 xf_106.2.2 rfl ?_
    refine hQ _ _ ?_
    have h2288 := (hf2285.1 2 (by omega)).trans (h2271)
    have h2289 := (hf2285.1 502 (by omega)).trans ((n2272 502 (by decide)).trans (ha2258))
    have h2290 := (hf2285.1 503 (by omega)).trans ((n2272 503 (by decide)).trans (ha2259))
    exact Or.inr ⟨n2248, z2249, t2250, ot2251, dr2252, rfl, hp2254, hp2255, hp2256, h2288, h2287, ho2282, ho2283, ho2284, h2289, h2290, (((X_Fr.rf).tr (X_Fr.mono ⟨hf2260.1, hf2260.2⟩ (fun q hq => (by omega)))).tr (X_Fr.of n2272 e2273 (by omega))).tr (X_Fr.mono ⟨hf2285.1, hf2285.2⟩ (fun q hq => (by omega)))⟩
set_option maxHeartbeats 1600000 in
theorem c_book (sc : X_Sc) (S : X_S) (B : Nat) (B2 : Nat) (B0 : Nat) (fl0 : Int) (fp0 : Int) (at0 : Int) (n0 : Int) (cur0 : Int) (so0 : Int → Int) (pl0 : Int → Int) (ct0 : Int → Int64) (rc2 : Int) (kc2 : Int) (wc2 : Int) (rn2 : Int → Int64) (lo2 : Int → Int) (kn2 : Int → Int64) (ab2 : Int → Int) (D2 : Int → Nat → Int → Int) (W2 : Int → Int → Int64) (tn : Int) (fl : Int) (nc : Int) (rs : Int) (re : Int) (hgt : Int) (len : Int) (tb : Int → Int) (hO1 : S.1 1 = .inr (10, [.ref 2, .ref B, .ref B2, .ref 496, .ref 501, .ref 504, .ref 511, .ref 517, .ref 527])) (hO2 : S.1 2 = .inr (7, [.ref 3, .int (iI len)])) (hO501 : S.1 501 = .inr (6, [.int (iI tn), .ref 502, .ref 503])) (hO511 : S.1 511 = .inr (1, [.ref B, .ref 501, .int (iI fl), .ref 512, .ref 513, .ref 514, .ref 515, .ref 516])) (hO504 : S.1 504 = .inr (5, [.int (iI nc), .ref 505, .ref 506, .ref 507, .ref 508, .ref 509, .ref 510])) (hO527 : S.1 527 = .inr (9, [.ref 501, .ref 504, .int (iI rs), .int (iI re), .ref 528, .ref 529, .int (iI hgt)])) (hB : (B = 4 ∧ B2 = 250) ∨ (B = 250 ∧ B2 = 4)) (hA3 : S.1 3 = .inl (.byte, 2000, .inl fun k : Nat => iI (tb (k : Int)))) (hl : 0 ≤ len ∧ len ≤ 2000) (hp0 : C_pa S B0 fl0 fp0) (hx0 : C_lx S at0 n0 cur0 so0 pl0 ct0) (hb2 : C_bk S B2 rc2 kc2 wc2 rn2 lo2 kn2 ab2) (hs2 : C_ws S B2 D2 W2) : X_T sc 103 (0, [(0, .ref 1)], [], S) (fun v S' => (∃ (n : Int) (so : Int → Int) (pl : Int → Int) (ct : Int → Int64) (c1 : Int) (rc1 : Int) (kc1 : Int) (wc1 : Int) (rn1 : Int → Int64) (lo1 : Int → Int) (kn1 : Int → Int64) (ab1 : Int → Int) (D1 : Int → Nat → Int → Int) (W1 : Int → Int → Int64) (D3 : Int → Nat → Int → Int), v = some (.int (iI wc1)) ∧ X_Txt tb len n so pl ct ∧ sp_lines n so ct 2001 (0, 0, 1, 0, rn2, lo2, X_ug kn2 0 (Int64.ofNat 6384748), X_ug ab2 0 1, D2, W2) = some (c1, rc1, kc1, wc1, rn1, lo1, kn1, ab1, D1, W1) ∧ X_Kok (c1, rc1, kc1, wc1, rn1, lo1, kn1, ab1, D1, W1) ∧ X_sD D1 D3 ∧ ((∀ w, 0 ≤ w → w < wc1 → ∀ e, X_hl (D1 w) (W1 w) e → X_tkn lo1 ab1 kc1 wc1 D1 W1 w e (D3 w 11 (D1 w 8 e)) (D3 w 10 (D1 w 8 e)))) ∧ C_bk S' B2 rc1 kc1 wc1 rn1 lo1 kn1 ab1 ∧ C_ws S' B2 D3 W1 ∧ ((∃ (fl fp : Int), C_pa S' B2 fl fp) ∧ (∃ (a1 a2 a3 : Int) (b1 b2 : Int → Int) (b3 : Int → Int64), C_lx S' a1 a2 a3 b1 b2 b3)) ∧ S'.1 1 = .inr (10, [.ref 2, .ref B2, .ref B, .ref 496, .ref 501, .ref 504, .ref 511, .ref 517, .ref 527]) ∧ S'.1 2 = .inr (7, [.ref 3, .int (iI 0)]) ∧ S'.1 501 = .inr (6, [.int (iI 0), .ref 502, .ref 503]) ∧ S'.1 511 = .inr (1, [.ref B2, .ref 501, .int (iI 0), .ref 512, .ref 513, .ref 514, .ref 515, .ref 516]) ∧ S'.1 504 = .inr (5, [.int (iI 0), .ref 505, .ref 506, .ref 507, .ref 508, .ref 509, .ref 510]) ∧ S'.1 527 = .inr (9, [.ref 501, .ref 504, .int (iI 0), .int (iI (-1)), .ref 528, .ref 529, .int (iI hgt)]) ∧ (X_Fr (fun q => q = 1 ∨ q = 2 ∨ (496 ≤ q ∧ q ≤ 501) ∨ q = 504 ∨ q = 511 ∨ q = 527 ∨ (B2 ≤ q ∧ q < B2 + 246)) S S')) ∨ (∃ (n : Int) (so : Int → Int) (pl : Int → Int) (ct : Int → Int64) (rc2x : Int) (kc2x : Int) (wc2x : Int) (rn2x : Int → Int64) (lo2x : Int → Int) (kn2x : Int → Int64) (ab2x : Int → Int) (D2x : Int → Nat → Int → Int) (W2x : Int → Int → Int64), v = some (.int (iI (-1))) ∧ X_Txt tb len n so pl ct ∧ sp_lines n so ct 2001 (0, 0, 1, 0, rn2, lo2, X_ug kn2 0 (Int64.ofNat 6384748), X_ug ab2 0 1, D2, W2) = none ∧ C_bk S' B2 rc2x kc2x wc2x rn2x lo2x kn2x ab2x ∧ C_ws S' B2 D2x W2x ∧ ((∃ (fl fp : Int), C_pa S' B2 fl fp) ∧ (∃ (a1 a2 a3 : Int) (b1 b2 : Int → Int) (b3 : Int → Int64), C_lx S' a1 a2 a3 b1 b2 b3)) ∧ S'.1 2 = .inr (7, [.ref 3, .int (iI 0)]) ∧ (X_Fr (fun q => q = 2 ∨ (496 ≤ q ∧ q ≤ 500) ∨ (B2 ≤ q ∧ q < B2 + 246)) S S'))) := by
  refine X_QI (fun Q hQ => ?_)
  refine T_p xr_103_0 xn_103 (pc' := 1) (ls' := [(0, .ref 1)]) (st' := [.ref 1]) rfl ?_
  refine T_get xr_103_1 hO1 rfl (v := .ref 496) rfl (pc' := 4) rfl ?_
  refine T_p xr_103_4 xn_103 (pc' := 5) (ls' := [(0, .ref 1)]) (st' := [.ref 1, .ref 496]) rfl ?_
  refine T_get xr_103_5 hO1 rfl (v := .ref B2) rfl (pc' := 8) rfl ?_
  refine T_cv (S := S) (q := 496) xr_103_8 xf_61.1 xf_61.2.1 xn_61 (as := [.ref B2]) (r := []) rfl hp0 (Nat.le_of_ble_eq_true rfl) (Nat.le_of_ble_eq_true rfl) (pc' := 11) rfl (ls' := [(0, .ref 496), (1, .ref B2)]) rfl ?_
  refine T_mono (c_parse sc S B2 B0 len tb fl0 fp0 at0 n0 cur0 so0 pl0 ct0 rc2 kc2 wc2 rn2 lo2 kn2 ab2 D2 W2 (by omega) ⟨hO2, hA3, by omega, by omega⟩ hp0 hx0 hb2 hs2) (fun v2291 S2292 h2293 => ?_)
  obtain ⟨n, so, pl, ct, at2294, hTx, h2293 | h2293, hfr2296⟩ := h2293
  · skip
    obtain ⟨hv2295, c1, rc1, kc1, wc1, rn1, lo1, kn1, ab1, D1, W1, D3, fp1, hsp, hKk, hsD, htk, hCK⟩ := h2293
    rw [hv2295]
    have hbk : C_bk S2292 B2 rc1 kc1 wc1 rn1 lo1 kn1 ab1 := hCK.2.2.1
    have hws : C_ws S2292 B2 D3 W1 := hCK.2.2.2.1
    have hwcr := hbk.2.2.2.2.2.2.2.2
    show X_T sc 103 (11, [(0, .ref 1)], [.int (iI 1)], S2292) _
    refine T_p xr_103_11 xn_103 (pc' := 12) (ls' := [(1, .int (iI 1)), (0, .ref 1)]) (st' := []) rfl ?_
    refine T_p xr_103_12 xn_103 (pc' := 13) (ls' := [(1, .int (iI 1)), (0, .ref 1)]) (st' := [.ref 1]) rfl ?_
    have h2297 := (hfr2296.1 1 (by omega)).trans (hO1)
    refine T_get xr_103_13 h2297 rfl (v := .ref 2) rfl (pc' := 16) rfl ?_
    refine T_p xr_103_16 xn_103 (pc' := 17) (ls' := [(1, .int (iI 1)), (0, .ref 1)]) (st' := [.int (iI 0), .ref 2]) rfl ?_
    have h2298 := (hfr2296.1 2 (by omega)).trans (hO2)
    refine T_put xr_103_17 h2298 rfl (Nat.le_of_ble_eq_true rfl) rfl (fs' := [.ref 3, .int (iI 0)]) rfl (pc' := 20) rfl (fun S2299 h2300 n2301 e2302 => ?_)
    refine T_p xr_103_20 xn_103 (pc' := 21) (ls' := [(1, .int (iI 1)), (0, .ref 1)]) (st' := [.int (iI 1)]) rfl ?_
    refine T_zif_net xr_103_21 (t := 26) rfl (by decide) ?_
    refine T_p xr_103_26 xn_103 (pc' := 27) (ls' := [(1, .int (iI 1)), (0, .ref 1)]) (st' := [.ref 1]) rfl ?_
    have h2303 := (n2301 1 (by decide)).trans (h2297)
    refine T_get xr_103_27 h2303 rfl (v := .ref B2) rfl (pc' := 30) rfl ?_
    refine T_p xr_103_30 xn_103 (pc' := 31) (ls' := [(2, .ref B2), (1, .int (iI 1)), (0, .ref 1)]) (st' := []) rfl ?_
    refine T_p xr_103_31 xn_103 (pc' := 32) (ls' := [(2, .ref B2), (1, .int (iI 1)), (0, .ref 1)]) (st' := [.ref 1]) rfl ?_
    refine T_p xr_103_32 xn_103 (pc' := 33) (ls' := [(2, .ref B2), (1, .int (iI 1)), (0, .ref 1)]) (st' := [.ref 1, .ref 1]) rfl ?_
    refine T_get xr_103_33 h2303 rfl (v := .ref B) rfl (pc' := 36) rfl ?_
    refine T_put xr_103_36 h2303 rfl (Nat.le_of_ble_eq_true rfl) rfl (fs' := [.ref 2, .ref B, .ref B, .ref 496, .ref 501, .ref 504, .ref 511, .ref 517, .ref 527]) rfl (pc' := 39) rfl (fun S2304 h2305 n2306 e2307 => ?_)
    refine T_p xr_103_39 xn_103 (pc' := 40) (ls' := [(2, .ref B2), (1, .int (iI 1)), (0, .ref 1)]) (st' := [.ref 1]) rfl ?_
    refine T_p xr_103_40 xn_103 (pc' := 41) (ls' := [(2, .ref B2), (1, .int (iI 1)), (0, .ref 1)]) (st' := [.ref B2, .ref 1]) rfl ?_
    refine T_put xr_103_41 h2305 rfl (Nat.le_of_ble_eq_true rfl) rfl (fs' := [.ref 2, .ref B2, .ref B, .ref 496, .ref 501, .ref 504, .ref 511, .ref 517, .ref 527]) rfl (pc' := 44) rfl (fun S2308 h2309 n2310 e2311 => ?_)
    refine T_p xr_103_44 xn_103 (pc' := 45) (ls' := [(2, .ref B2), (1, .int (iI 1)), (0, .ref 1)]) (st' := [.ref 1]) rfl ?_
    refine T_get xr_103_45 h2309 rfl (v := .ref 501) rfl (pc' := 48) rfl ?_
    refine T_p xr_103_48 xn_103 (pc' := 49) (ls' := [(2, .ref B2), (1, .int (iI 1)), (0, .ref 1)]) (st' := [.int (iI 0), .ref 501]) rfl ?_
    have h2312 := (n2310 501 (by decide)).trans ((n2306 501 (by decide)).trans ((n2301 501 (by decide)).trans ((hfr2296.1 501 (by omega)).trans (hO501))))
    refine T_put xr_103_49 h2312 rfl (Nat.le_of_ble_eq_true rfl) rfl (fs' := [.int (iI 0), .ref 502, .ref 503]) rfl (pc' := 52) rfl (fun S2313 h2314 n2315 e2316 => ?_)
    refine T_p xr_103_52 xn_103 (pc' := 53) (ls' := [(2, .ref B2), (1, .int (iI 1)), (0, .ref 1)]) (st' := [.ref 1]) rfl ?_
    have h2317 := (n2315 1 (by decide)).trans (h2309)
    refine T_cv (S := S2313) (q := 1) xr_103_53 xf_111.1 xf_111.2.1 xn_111 (as := []) (r := []) rfl h2317 (Nat.le_of_ble_eq_true rfl) (Nat.le_of_ble_eq_true rfl) (pc' := 56) rfl (ls' := [(0, .ref 1)]) rfl ?_
    have h2318 := (n2315 511 (by decide)).trans ((n2310 511 (by decide)).trans ((n2306 511 (by decide)).trans ((n2301 511 (by decide)).trans ((hfr2296.1 511 (by omega)).trans (hO511)))))
    have h2319 := (n2315 504 (by decide)).trans ((n2310 504 (by decide)).trans ((n2306 504 (by decide)).trans ((n2301 504 (by decide)).trans ((hfr2296.1 504 (by omega)).trans (hO504)))))
    have h2320 := (n2315 527 (by decide)).trans ((n2310 527 (by decide)).trans ((n2306 527 (by decide)).trans ((n2301 527 (by decide)).trans ((hfr2296.1 527 (by omega)).trans (hO527)))))
    refine T_mono (c_dropReading sc S2313 B2 B B fl nc rs re hgt h2317 h2318 h2319 h2320) (fun v2321 S2322 h2323 => ?_)
    rcases h2323 with ⟨hv2324, ho2325, ho2326, ho2327, hf2328⟩
    rw [hv2324]
    show X_T sc 103 (56, [(2, .ref B2), (1, .int (iI 1)), (0, .ref 1)], [], S2322) _
    refine T_p xr_103_56 xn_103 (pc' := 57) (ls' := [(2, .ref B2), (1, .int (iI 1)), (0, .ref 1)]) (st' := [.ref 1]) rfl ?_
    have h2329 := (hf2328.1 1 (by omega)).trans (h2317)
    refine T_get xr_103_57 h2329 rfl (v := .ref B2) rfl (pc' := 60) rfl ?_
    have h2330 := (hf2328.1 B2 (by omega)).trans ((n2315 B2 (by omega)).trans ((n2310 B2 (by omega)).trans ((n2306 B2 (by omega)).trans ((n2301 B2 (by omega)).trans (hbk.1)))))
    refine T_get xr_103_60 h2330 rfl (v := .int (iI wc1)) rfl (pc' := 63) rfl ?_
    refine T_iret xr_103_63 xf_103.2.2 rfl ?_
    refine hQ _ _ ?_
    have hfE : X_Fr (fun q => q = 1 ∨ q = 2 ∨ q = 501 ∨ q = 504 ∨ q = 511 ∨ q = 527) S2292 S2322 := (((((X_Fr.rf).tr (X_Fr.of n2301 e2302 (by omega))).tr (X_Fr.of n2306 e2307 (by omega))).tr (X_Fr.of n2310 e2311 (by omega))).tr (X_Fr.of n2315 e2316 (by omega))).tr (X_Fr.mono ⟨hf2328.1, hf2328.2⟩ (fun q hq => (by omega)))
    have h2331 := (hf2328.1 2 (by omega)).trans ((n2315 2 (by decide)).trans ((n2310 2 (by decide)).trans ((n2306 2 (by decide)).trans (h2300))))
    have h2332 := (hf2328.1 501 (by omega)).trans (h2314)
    exact Or.inl ⟨n, so, pl, ct, c1, rc1, kc1, wc1, rn1, lo1, kn1, ab1, D1, W1, D3, rfl, hTx, hsp, hKk, hsD, htk, (hbk.fr hfE (fun k hk => by omega)), (hws.fr hfE (fun k h1 h2 => by omega)), ⟨⟨_, _, (hfE.1 496 (by omega)).trans hCK.1⟩, ⟨_, _, _, _, _, _, (hfE.1 497 (by omega)).trans hCK.2.1.1, (hfE.1 498 (by omega)).trans hCK.2.1.2.1, (hfE.1 499 (by omega)).trans hCK.2.1.2.2.1, (hfE.1 500 (by omega)).trans hCK.2.1.2.2.2⟩⟩, h2329, h2331, h2332, ho2325, ho2326, ho2327, ((((((X_Fr.rf).tr (X_Fr.mono ⟨hfr2296.1, hfr2296.2⟩ (fun q hq => (by omega)))).tr (X_Fr.of n2301 e2302 (by omega))).tr (X_Fr.of n2306 e2307 (by omega))).tr (X_Fr.of n2310 e2311 (by omega))).tr (X_Fr.of n2315 e2316 (by omega))).tr (X_Fr.mono ⟨hf2328.1, hf2328.2⟩ (fun q hq => (by omega)))⟩
  · skip
    obtain ⟨hv2295, hsp, fl1, fp1, ⟨c1, rc1, kc1, wc1, rn1, lo1, kn1, ab1, D1, W1⟩, hfl1, hCK⟩ := h2293
    rw [hv2295]
    have hbk : C_bk S2292 B2 rc1 kc1 wc1 rn1 lo1 kn1 ab1 := hCK.2.2.1
    have hws : C_ws S2292 B2 D1 W1 := hCK.2.2.2.1
    show X_T sc 103 (11, [(0, .ref 1)], [.int (iI 0)], S2292) _
    refine T_p xr_103_11 xn_103 (pc' := 12) (ls' := [(1, .int (iI 0)), (0, .ref 1)]) (st' := []) rfl ?_
    refine T_p xr_103_12 xn_103 (pc' := 13) (ls' := [(1, .int (iI 0)), (0, .ref 1)]) (st' := [.ref 1]) rfl ?_
    have h2333 := (hfr2296.1 1 (by omega)).trans (hO1)
    refine T_get xr_103_13 h2333 rfl (v := .ref 2) rfl (pc' := 16) rfl ?_
    refine T_p xr_103_16 xn_103 (pc' := 17) (ls' := [(1, .int (iI 0)), (0, .ref 1)]) (st' := [.int (iI 0), .ref 2]) rfl ?_
    have h2334 := (hfr2296.1 2 (by omega)).trans (hO2)
    refine T_put xr_103_17 h2334 rfl (Nat.le_of_ble_eq_true rfl) rfl (fs' := [.ref 3, .int (iI 0)]) rfl (pc' := 20) rfl (fun S2335 h2336 n2337 e2338 => ?_)
    refine T_p xr_103_20 xn_103 (pc' := 21) (ls' := [(1, .int (iI 0)), (0, .ref 1)]) (st' := [.int (iI 0)]) rfl ?_
    refine T_zif_nef xr_103_21 (t := 26) (pc' := 24) rfl rfl (by decide) ?_
    refine T_p xr_103_24 xn_103 (pc' := 25) (ls' := [(1, .int (iI 0)), (0, .ref 1)]) (st' := [.int (iI (-1))]) rfl ?_
    refine T_iret xr_103_25 xf_103.2.2 rfl ?_
    refine hQ _ _ ?_
    have hfE : X_Fr (fun q => q = 1 ∨ q = 2 ∨ q = 501 ∨ q = 504 ∨ q = 511 ∨ q = 527) S2292 S2335 := (X_Fr.rf).tr (X_Fr.of n2337 e2338 (by omega))
    exact Or.inr ⟨n, so, pl, ct, rc1, kc1, wc1, rn1, lo1, kn1, ab1, D1, W1, rfl, hTx, hsp, (hbk.fr hfE (fun k hk => by omega)), (hws.fr hfE (fun k h1 h2 => by omega)), ⟨⟨_, _, (hfE.1 496 (by omega)).trans hCK.1⟩, ⟨_, _, _, _, _, _, (hfE.1 497 (by omega)).trans hCK.2.1.1, (hfE.1 498 (by omega)).trans hCK.2.1.2.1, (hfE.1 499 (by omega)).trans hCK.2.1.2.2.1, (hfE.1 500 (by omega)).trans hCK.2.1.2.2.2⟩⟩, h2336, ((X_Fr.rf).tr (X_Fr.mono ⟨hfr2296.1, hfr2296.2⟩ (fun q hq => (by omega)))).tr (X_Fr.of n2337 e2338 (by omega))⟩

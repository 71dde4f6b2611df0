section
-- 9na.pjw.lean.txt
section MVA
variable {cs : Nat → ClassId} {ad ad' : Nat → Nat} {g g' : Nat → va_E} {i : Nat}
theorem isPk.mvA {S : SL9} (hA : ∀ j, i ≤ j → j < i + 2 → ad' j = ad j) (hG : ∀ j, i ≤ j → j < i + 2 → g' j = g j) (h : isPk cs ad g i S) : isPk cs ad' g' i S := by
  obtain ⟨r, h1, h2⟩ := h
  exact ⟨r, isPack.mv hA hG h1, h2⟩
theorem isWl.mvA {W : WL9} (hA : ∀ j, i ≤ j → j < i + 10 → ad' j = ad j) (hG : ∀ j, i ≤ j → j < i + 10 → g' j = g j) (h : isWl cs ad g i W) : isWl cs ad' g' i W := by
  obtain ⟨h1, ⟨u, h2, h3⟩, h4⟩ := h
  exact ⟨by rw [hA (i + 1) (by omega) (by omega), hG i (by omega) (by omega)]; exact h1, ⟨u, (hG _ (by omega) (by omega)).trans h2, fun k hk => by rw [hA _ (by omega) (by omega)]; exact h3 k hk⟩, fun k hk => (h4 k hk).mvA (fun j _ _ => hA j (by omega) (by omega)) (fun j _ _ => hG j (by omega) (by omega))⟩
theorem isPt.mvA {P : PT9} (hA : ∀ j, i ≤ j → j < i + 3 → ad' j = ad j) (hG : ∀ j, i ≤ j → j < i + 3 → g' j = g j) (h : isPt cs ad g i P) : isPt cs ad' g' i P := by
  obtain ⟨h1, ro, h2⟩ := h
  exact ⟨by rw [hA (i + 1) (by omega) (by omega), hG i (by omega) (by omega)]; exact h1, ro, h2.mvA (fun j _ _ => hA j (by omega) (by omega)) (fun j _ _ => hG j (by omega) (by omega))⟩
theorem xKt.mvA {na : Nat} {H : Nat → WL9} {W : WL9} {P : Nat → PT9} {nz : Int} {nu nv nw rf : Nat → Int} (hA : ∀ j, i ≤ j → j < i + 436 → ad' j = ad j) (hG : ∀ j, i ≤ j → j < i + 436 → g' j = g j) (hn : na ≤ 40) (h : xKt cs ad g i na H W P nz nu nv nw rf) : xKt cs ad' g' i na H W P nz nu nv nw rf := by
  obtain ⟨h1, h2, ⟨b, f, ⟨h3, h4⟩, h5, h6⟩, h7, h8, h9⟩ := h
  refine ⟨?_, h2.mvA (fun j _ _ => hA j (by omega) (by omega)) (fun j _ _ => hG j (by omega) (by omega)), ⟨b, f, ⟨(hG _ (by omega) (by omega)).trans h3, fun k hk => ⟨(h4 k hk).1, ?_⟩⟩, h5, fun k hk => ?_⟩, fun k hk => (h7 k hk).mvA (fun j _ _ => hA j (by omega) (by omega)) (fun j _ _ => hG j (by omega) (by omega)), h8.mv (fun j _ _ => hA j (by omega) (by omega)) (fun j _ _ => hG j (by omega) (by omega)), (hG _ (by omega) (by omega)).trans h9⟩
  · rw [hG i (by omega) (by omega), h1]
    unfold stC
    rw [hA (i + 1) (by omega) (by omega), hA (i + 11) (by omega) (by omega), hA (i + 12) (by omega) (by omega), hA (i + 13) (by omega) (by omega), hA (i + 17) (by omega) (by omega)]
  · have hf := (h4 k hk).1
    rw [hA _ (by omega) (by omega)]
    exact (h4 k hk).2
  · have hf := (h4 k (by omega)).1
    exact (h6 k hk).mvA (fun j _ _ => hA j (by omega) (by omega)) (fun j _ _ => hG j (by omega) (by omega))
end MVA
def sh9 (k : Nat) (f : Nat → Int) : Nat → Int := fun j => f (k + j)
/-- one State of the class (at role i), and the reference's rows and arrays that say the same -/
def jSt (cs : Nat → ClassId) (ad : Nat → Nat) (g : Nat → va_E) (i : Nat) (x nz : Int) (F r ns nh nd rr pp : Nat → Int) (na : Nat) (H : Nat → WL9) (W : WL9) (P : Nat → PT9) : Prop := okState cs ad g i (na : Int) nz ∧ (∃ nu nv nw rf : Nat → Int, xKt cs ad g i na H W P nz nu nv nw rf ∧ (∀ k, k < 8 → nu k = ns k ∧ nv k = nh k ∧ nw k = nd k) ∧ (∀ k, k < 8 → (0 ≤ nu k ∧ nu k ≤ 3) ∧ 0 ≤ nv k ∧ nv k ≤ 48) ∧ ∀ k, k < 3 → rf k = rr k) ∧ (0 ≤ nz ∧ nz ≤ 8) ∧ okRX F r x W na H ∧ isPr pp P ∧ ∀ k, k < 6 → (0 ≤ (P k).1 ∧ (P k).1 ≤ 3) ∧ (P k).2.2.1 ≤ 12
theorem isPr.eq {pp pp' : Nat → Int} {P : Nat → PT9} (h : isPr pp P) (e : ∀ k, k < 540 → pp' k = pp k) : isPr pp' P := fun k hk => by
  obtain ⟨⟨h1, h2, h3, h4⟩, h5⟩ := h k hk
  exact ⟨⟨(e _ (by omega)).trans h1, (e _ (by omega)).trans h2, (e _ (by omega)).trans h3, h4⟩, fun q hq => (e _ (by omega)).trans (h5 q hq)⟩
section JST
variable {cs : Nat → ClassId} {ad ad' : Nat → Nat} {g g' : Nat → va_E} {i na : Nat} {x y nz : Int} {F F' r r' ns nh nd rr pp ns' nh' nd' rr' pp' : Nat → Int} {H : Nat → WL9} {W : WL9} {P : Nat → PT9}
theorem jSt.mv (h : jSt cs ad g i x nz F r ns nh nd rr pp na H W P) (hxy : x ≤ y) (hA : ∀ j, i ≤ j → j < i + 436 → ad' j = ad j) (hG : ∀ j, i ≤ j → j < i + 436 → g' j = g j) (h15 : F' 15 = F 15) (h16 : F' 16 = F 16) (hr : ∀ j, j < 350 ∨ (700 ≤ j ∧ j < 14700) → r' j = r j) (hn : ∀ k, k < 8 → ns' k = ns k ∧ nh' k = nh k ∧ nd' k = nd k) (hrr : ∀ k, k < 3 → rr' k = rr k) (hp : ∀ k, k < 540 → pp' k = pp k) : jSt cs ad' g' i y nz F' r' ns' nh' nd' rr' pp' na H W P := by
  obtain ⟨h1, ⟨nu, nv, nw, rf, h2, h3, h4, h5⟩, h6, h7, h8, h9⟩ := h
  have hna := h1.2.1
  refine ⟨h1.mv hA hG, ⟨nu, nv, nw, rf, h2.mvA hA hG (by omega), fun k hk => ?_, h4, fun k hk => (h5 k hk).trans (hrr k hk).symm⟩, h6, h7.nx hxy h15 h16 hr, h8.eq hp, h9⟩
  obtain ⟨a, b, c⟩ := h3 k hk
  obtain ⟨a2, b2, c2⟩ := hn k hk
  exact ⟨a.trans a2.symm, b.trans b2.symm, c.trans c2.symm⟩
end JST
/-- what the class's State and image have in common with the reference's rows -/
def JW (cs : Nat → ClassId) (ad : Nat → Nat) (g : Nat → va_E) (x : Int) (im nz kz sl ho : Int) (st op ai fa mu tb F r : Nat → Int) : Prop := ∃ (nsl na nak : Nat) (H Hk : Nat → WL9) (W Wk : WL9) (P Pk : Nat → PT9) (ns nh nd rr pp : Nat → Int), (sl = (nsl : Int) ∧ okFc sl ho 0 op ai fa mu tb ∧ ∀ k : Nat, (k : Int) < sl → 0 ≤ st k ∧ st k ≤ 90) ∧ (plF F ∧ F 20 = kz) ∧ (g 929 = iA cs 16 ns ∧ g 930 = iA cs 16 nh ∧ g 931 = iA cs 16 nd ∧ g 932 = iA cs 6 rr ∧ g 933 = iA cs 1080 pp) ∧ (okPt pp ∧ ∀ k, k < 16 → 0 ≤ ns k ∧ ns k ≤ 3) ∧ jSt cs ad g 11 x nz F r ns nh nd rr pp na H W P ∧ jSt cs ad g 447 x kz (imF F) (imR r) (sh9 8 ns) (sh9 8 nh) (sh9 8 nd) (sh9 3 rr) (sh9 540 pp) nak Hk Wk Pk ∧ (emW nsl W ∧ ∀ k, k < na → emW nsl (H k)) ∧ (im = 1 → emW nsl Wk ∧ ∀ k, k < nak → emW nsl (Hk k))
section JWS
variable {cs : Nat → ClassId} {ad ad' : Nat → Nat} {g g' : Nat → va_E} {x im nz nz' kz sl ho : Int} {st op ai fa mu tb F F' r r' : Nat → Int}
theorem imR.eq (hr : ∀ j, 14700 ≤ j → r' j = r j) : ∀ j, j < 350 ∨ (700 ≤ j ∧ j < 14700) → imR r' j = imR r j := fun j hj => by
  show (if j < 350 then r' (14700 + j) else r' (j + 14350)) = (if j < 350 then r (14700 + j) else r (j + 14350))
  by_cases e : j < 350
  · rw [if_pos e, if_pos e]; exact hr _ (by omega)
  · rw [if_neg e, if_neg e]; exact hr _ (by omega)
/-- a question -/
theorem JW.ques (h : JW cs ad g x im nz kz sl ho st op ai fa mu tb F r) (hA : ∀ j, 11 ≤ j → j < 883 → ad' j = ad j) (hG : ∀ j, 11 ≤ j → j < 883 → g' j = g j) (hG2 : ∀ j, 929 ≤ j → j ≤ 933 → g' j = g j) (hF : F' 15 = F 15 ∧ F' 16 = F 16 ∧ F' 18 = F 18 ∧ F' 19 = F 19 ∧ F' 20 = F 20) (hp : F' 25 = 0 ∧ F' 26 = -1 ∧ F' 27 = -1 ∧ F' 29 = 0) (hr : ∀ j, j < 350 ∨ 700 ≤ j → r' j = r j) : JW cs ad' g' (x + 1) im nz kz sl ho st op ai fa mu tb F' r' := by
  obtain ⟨nsl, na, nak, H, Hk, W, Wk, P, Pk, ns, nh, nd, rr, pp, h1, ⟨h2, h3⟩, ⟨c1, c2, c3, c4, c5⟩, h5, h6, h7, h8, h9⟩ := h
  obtain ⟨f1, f2, f3, f4, f5⟩ := hF
  exact ⟨nsl, na, nak, H, Hk, W, Wk, P, Pk, ns, nh, nd, rr, pp, h1, ⟨hp, f5.trans h3⟩, ⟨(hG2 _ (by omega) (by omega)).trans c1, (hG2 _ (by omega) (by omega)).trans c2, (hG2 _ (by omega) (by omega)).trans c3, (hG2 _ (by omega) (by omega)).trans c4, (hG2 _ (by omega) (by omega)).trans c5⟩, h5, h6.mv (by omega) (fun j _ _ => hA j (by omega) (by omega)) (fun j _ _ => hG j (by omega) (by omega)) f1 f2 (fun j hj => hr j (by omega)) (fun _ _ => ⟨rfl, rfl, rfl⟩) (fun _ _ => rfl) (fun _ _ => rfl), h7.mv (by omega) (fun j _ _ => hA j (by omega) (by omega)) (fun j _ _ => hG j (by omega) (by omega)) f3 f4 (imR.eq (fun j hj => hr j (by omega))) (fun _ _ => ⟨rfl, rfl, rfl⟩) (fun _ _ => rfl) (fun _ _ => rfl), h8, h9⟩
/-- the State is another one, the image is not -/
theorem JW.now {nsl na nak : Nat} {H Hk : Nat → WL9} {W Wk : WL9} {P Pk : Nat → PT9} {ns nh nd rr pp ns' nh' nd' rr' pp' : Nat → Int} (h1 : (sl = (nsl : Int) ∧ okFc sl ho 0 op ai fa mu tb ∧ ∀ k : Nat, (k : Int) < sl → 0 ≤ st k ∧ st k ≤ 90)) (h2 : (F' 25 = 0 ∧ F' 26 = -1 ∧ F' 27 = -1 ∧ F' 29 = 0) ∧ F' 20 = kz) (hc : (g' 929 = iA cs 16 ns' ∧ g' 930 = iA cs 16 nh' ∧ g' 931 = iA cs 16 nd' ∧ g' 932 = iA cs 6 rr' ∧ g' 933 = iA cs 1080 pp')) (ht : (okPt pp' ∧ ∀ k, k < 16 → 0 ≤ ns' k ∧ ns' k ≤ 3)) (hn : jSt cs ad g' 11 (x + 1) nz' F' r' ns' nh' nd' rr' pp' na H W P) (hk : jSt cs ad g 447 x kz (imF F) (imR r) (sh9 8 ns) (sh9 8 nh) (sh9 8 nd) (sh9 3 rr) (sh9 540 pp) nak Hk Wk Pk) (hG : ∀ j, 447 ≤ j → j < 883 → g' j = g j) (hF : F' 18 = F 18 ∧ F' 19 = F 19) (hr : ∀ j, 14700 ≤ j → r' j = r j) (hs : ∀ k, k < 8 → ns' (8 + k) = ns (8 + k) ∧ nh' (8 + k) = nh (8 + k) ∧ nd' (8 + k) = nd (8 + k)) (hs2 : ∀ k, k < 3 → rr' (3 + k) = rr (3 + k)) (hs3 : ∀ k, k < 540 → pp' (540 + k) = pp (540 + k)) (he : (emW nsl W ∧ ∀ k, k < na → emW nsl (H k))) (hek : (im = 1 → emW nsl Wk ∧ ∀ k, k < nak → emW nsl (Hk k))) : JW cs ad g' (x + 1) im nz' kz sl ho st op ai fa mu tb F' r' :=
  ⟨nsl, na, nak, H, Hk, W, Wk, P, Pk, ns', nh', nd', rr', pp', h1, h2, hc, ht, hn, hk.mv (by omega) (fun _ _ _ => rfl) (fun j _ _ => hG j (by omega) (by omega)) hF.1 hF.2 (imR.eq hr) (fun k hk => hs k hk) (fun k hk => hs2 k hk) (fun k hk => hs3 k hk), he, hek⟩
theorem rf_act {rf rf' rr rr' : Nat → Int} {a b : Int} {n : Nat} (hn : n < 3) (h : ∀ k, k < 3 → rf k = rr k) (h1 : (a = -1 ∧ rf' = uZ rf n (rf n + 1)) ∨ (a ≠ -1 ∧ rf' = rf)) (h2 : (b = -1 ∧ rr' = uZ rr n (rr n + 1)) ∨ (b ≠ -1 ∧ rr' = rr)) (e : b = a) : (∀ k, k < 3 → rf' k = rr' k) ∧ ∀ k, k < 3 → rr' (3 + k) = rr (3 + k) := by
  rcases h1 with ⟨a1, rfl⟩ | ⟨a1, rfl⟩
  · rcases h2 with ⟨b1, rfl⟩ | ⟨b1, rfl⟩
    · refine ⟨fun k hk => ?_, fun k hk => uZ_n _ _ (by omega)⟩
      by_cases e2 : k = n
      · rw [e2, uZ_s, uZ_s, h n hn]
      · rw [uZ_n _ _ e2, uZ_n _ _ e2]; exact h k hk
    · omega
  · rcases h2 with ⟨b1, rfl⟩ | ⟨b1, rfl⟩
    · omega
    · exact ⟨h, fun _ _ => rfl⟩
theorem emW.kp {nsl na : Nat} {H : Nat → WL9} {W : WL9} (h : emW nsl W) (hH : ∀ k, k < na → emW nsl (H k)) (hn : na ≤ 40) : ∀ k, k < kpN na → emW nsl (kpH na H W k) := fun k hk => by
  unfold kpN at hk
  unfold kpH
  by_cases e : na = 40
  · rw [if_pos e] at hk ⊢
    show emW nsl (if k = 39 then W else H (k + 1))
    by_cases e2 : k = 39
    · rw [if_pos e2]; exact h
    · rw [if_neg e2]; exact hH _ (by omega)
  · rw [if_neg e] at hk ⊢
    show emW nsl (if k = na then W else H k)
    by_cases e2 : k = na
    · rw [if_pos e2]; exact h
    · rw [if_neg e2]; exact hH _ (by omega)
theorem hoC_em {ho ua z : Int} {op ai fa mu tb : Nat → Int} {nsl na : Nat} {H : Nat → WL9} {W : WL9} (h : emW nsl W) (hH : ∀ k, k < na → emW nsl (H k)) (hn : na ≤ 40) : emW nsl (hoC ho ua op ai fa mu tb nsl z W na H).2.1 ∧ ∀ k, k < (hoC ho ua op ai fa mu tb nsl z W na H).2.2.1 → emW nsl ((hoC ho ua op ai fa mu tb nsl z W na H).2.2.2 k) := by
  unfold hoC
  split
  · exact ⟨h.cw _, h.kp hH hn⟩
  · exact ⟨h, hH⟩
theorem digA_em {z : Int} {nsl na : Nat} {H : Nat → WL9} {W : WL9} (h : emW nsl W) (hH : ∀ k, k < na → emW nsl (H k)) (hn : na ≤ 40) : emW nsl (digA nsl z W na H).2.1 ∧ ∀ k, k < (digA nsl z W na H).2.2.1 → emW nsl ((digA nsl z W na H).2.2.2 k) := by
  unfold digA
  by_cases e : (0 ≤ z ∧ z < (nsl : Int)) ∧ 0 < (W.2 z.toNat).1
  · rw [if_pos e]; exact ⟨h.sl (by omega), h.kp hH hn⟩
  · rw [if_neg e]; exact ⟨h, hH⟩
theorem undA_em {nsl na : Nat} {H : Nat → WL9} {W : WL9} (h : emW nsl W) (hH : ∀ k, k < na → emW nsl (H k)) : emW nsl (undA W na H).2.1 ∧ ∀ k, k < (undA W na H).2.2.1 → emW nsl ((undA W na H).2.2.2 k) := by
  unfold undA
  by_cases e : na = 0
  · rw [if_pos e]; exact ⟨h, hH⟩
  · rw [if_neg e]; exact ⟨hH _ (show na - 1 < na by omega), fun k hk => hH k (by have h9 : k < na - 1 := hk; omega)⟩
theorem falC_em {ho ua z z1 z2 : Int} {ai : Nat → Int} {nsl na : Nat} {H : Nat → WL9} {W : WL9} (h : emW nsl W) (hH : ∀ k, k < na → emW nsl (H k)) (hn : na ≤ 40) : emW nsl (falC ho ua ai nsl z z1 z2 W na H).2.1 ∧ ∀ k, k < (falC ho ua ai nsl z z1 z2 W na H).2.2.1 → emW nsl ((falC ho ua ai nsl z z1 z2 W na H).2.2.2 k) := by
  unfold falC
  by_cases e : (0 ≤ z ∧ z < (nsl : Int)) ∧ (1 ≤ z1 ∧ z1 ≤ 3) ∧ (z1 < 3 → 1 ≤ z2 ∧ z2 ≤ 50) ∧ (z1 = 3 → fcZ ho ua ai (W.1 0) < 0)
  · rw [if_pos e]
    exact ⟨h.sl (by have := e.1; omega), h.kp hH hn⟩
  · rw [if_neg e]; exact ⟨h, hH⟩
theorem sldA_em {st tb : Nat → Int} {nsl na na2 : Nat} {z q : Int} {W W2 : WL9} {H H2 : Nat → WL9} (hs : sldA st tb nsl z W na H q W2 na2 H2) (h : emW nsl W) (hH : ∀ k, k < na → emW nsl (H k)) (hn : na ≤ 40) : emW nsl W2 ∧ ∀ k, k < na2 → emW nsl (H2 k) := by
  rcases hs with ⟨-, -, rfl, rfl, rfl⟩ | ⟨hz, -, wk, -, -, rfl, rfl, rfl⟩
  · exact ⟨h, hH⟩
  · exact ⟨h.sl (by omega), h.kp hH hn⟩
theorem pitA_em {z : Int} {nsl na : Nat} {H : Nat → WL9} {W : WL9} {P : Nat → PT9} (h : emW nsl W) (hH : ∀ k, k < na → emW nsl (H k)) (hn : na ≤ 40) : emW nsl (pitA nsl z W na H P).2.1 ∧ ∀ k, k < (pitA nsl z W na H P).2.2.1 → emW nsl ((pitA nsl z W na H P).2.2.2.1 k) := by
  unfold pitA
  split
  · exact ⟨fun s a b => h s a b, h.kp hH hn⟩
  · exact ⟨h, hH⟩
theorem pitA_9 {z : Int} {nsl na : Nat} {H : Nat → WL9} {W : WL9} {P : Nat → PT9} (hnsl : nsl ≤ 4) (hW : n12 W) (hP : ∀ k, k < 6 → (0 ≤ (P k).1 ∧ (P k).1 ≤ 3) ∧ (P k).2.2.1 ≤ 12) : ∀ k, k < 6 → (0 ≤ ((pitA nsl z W na H P).2.2.2.2 k).1 ∧ ((pitA nsl z W na H P).2.2.2.2 k).1 ≤ 3) ∧ ((pitA nsl z W na H P).2.2.2.2 k).2.2.1 ≤ 12 := fun k hk => by
  unfold pitA
  by_cases e : (0 ≤ z ∧ z < (nsl : Int)) ∧ W.1 5 < 6
  · rw [if_pos e]
    show (0 ≤ (ptP P (W.1 5).toNat (z, W.1 0, (W.2 z.toNat).1, (W.2 z.toNat).2.1) k).1 ∧ (ptP P (W.1 5).toNat (z, W.1 0, (W.2 z.toNat).1, (W.2 z.toNat).2.1) k).1 ≤ 3) ∧ (ptP P (W.1 5).toNat (z, W.1 0, (W.2 z.toNat).1, (W.2 z.toNat).2.1) k).2.2.1 ≤ 12
    unfold ptP
    by_cases e2 : k = (W.1 5).toNat
    · rw [if_pos e2]
      exact ⟨(show 0 ≤ z ∧ z ≤ 3 by omega), hW z.toNat (by omega)⟩
    · rw [if_neg e2]; exact hP k hk
  · rw [if_neg e]; exact hP k hk
end JWS
end
section
-- 9naa.pja.lean.txt
theorem okEnv.fr {F op ai fa mu tb : Nat → Int} (h : okEnv F op ai fa mu tb) (hp : plF F) (ht : okTb tb) : okFr F op ai fa mu tb := by
  obtain ⟨⟨h1, h2, h3, h4, h5⟩, h6, h7, h8, -⟩ := h
  obtain ⟨p1, p2, p3, p4⟩ := hp
  exact ⟨⟨h1, h2, h3, h4, h5, by omega⟩, h6, h7, h8, ht⟩
theorem okTb.eq {tb tb' : Nat → Int} (h : okTb tb) (e : ∀ k : Nat, k < 15 → tb k = tb' k) : okTb tb' := ⟨fun k hk => by rw [← e k (by omega)]; exact h.1 k hk, fun k a b => by rw [← e k b]; exact h.2 k a b⟩
theorem okMr.env {cs : Nat → ClassId} {ad : Nat → Nat} {g : Nat → va_E} {i : Nat} {x : Int} {F r st op ai fa mu tb tp : Nat → Int} (h : okMr cs ad g i x F r st op ai fa mu tb tp) : okEnv F op ai fa mu tb := by
  obtain ⟨_, _, _, _, _, _, _, _, _, _, _, _, _, _, _, _, _, _, _, h, _⟩ := h
  exact h
theorem uZ_q9 {f f' : Nat → Int} {n k : Nat} {v : Int} (h : f k = f' k) : uZ f n v k = uZ f' n v k := by
  by_cases e : k = n
  · rw [e, uZ_s, uZ_s]
  · rw [uZ_n _ _ e, uZ_n _ _ e]; exact h
section JWT
variable {cs : Nat → ClassId} {ad : Nat → Nat} {g gx g' : Nat → va_E} {x im nz nz' kz sl ho : Int} {st op ai fa mu tb F F' r r' : Nat → Int} {nsl na na' nak : Nat} {H H' Hk : Nat → WL9} {W W' Wk : WL9} {P P' Pk : Nat → PT9} {ns nh nd rr pp ns' nh' nd' rr' pp' nu nv nw rf nu' nv' nw' rf' nuk nvk nwk rfk : Nat → Int}
/-- an act -/
theorem JW.act (h1 : (sl = (nsl : Int) ∧ okFc sl ho 0 op ai fa mu tb ∧ ∀ k : Nat, (k : Int) < sl → 0 ≤ st k ∧ st k ≤ 90)) (h2 : plF F ∧ F 20 = kz) (hc : (g 929 = iA cs 16 ns ∧ g 930 = iA cs 16 nh ∧ g 931 = iA cs 16 nd ∧ g 932 = iA cs 6 rr ∧ g 933 = iA cs 1080 pp)) (ht : (okPt pp ∧ ∀ k, k < 16 → 0 ≤ ns k ∧ ns k ≤ 3)) (hk : jSt cs ad g 447 x kz (imF F) (imR r) (sh9 8 ns) (sh9 8 nh) (sh9 8 nd) (sh9 3 rr) (sh9 540 pp) nak Hk Wk Pk) (hek : (im = 1 → emW nsl Wk ∧ ∀ k, k < nak → emW nsl (Hk k))) (hne : (∀ k, k < 8 → (nu k = ns k ∧ nv k = nh k ∧ nw k = nd k))) (hnt : ∀ k, k < 8 → (0 ≤ nu k ∧ nu k ≤ 3) ∧ 0 ≤ nv k ∧ nv k ≤ 48) (hz8 : 0 ≤ nz ∧ nz ≤ 8) (cS : okState cs ad gx 11 (na' : Int) nz) (cX : xKt cs ad gx 11 na' H' W' P' nz nu nv nw rf') (hrf : (∀ k, k < 3 → rf' k = rr' k) ∧ ∀ k, k < 3 → rr' (3 + k) = rr (3 + k)) (hG1 : ∀ j, j < 11 ∨ 447 ≤ j → gx j = g j) (rRX : okRX F' r' (x + 1) W' na' H') (hF : F' 13 = F 13 ∧ F' 14 = F 14 ∧ F' 17 = F 17 ∧ F' 18 = F 18 ∧ F' 19 = F 19 ∧ F' 20 = F 20 ∧ F' 21 = F 21 ∧ F' 23 = F 23 ∧ F' 24 = F 24 ∧ F' 25 = F 25 ∧ F' 26 = F 26 ∧ F' 27 = F 27 ∧ F' 28 = F 28 ∧ F' 29 = F 29) (hrw : ∀ j, 14700 ≤ j → r' j = r j) (hcr : g' 932 = iA cs 6 rr') (hcp : g' 933 = iA cs 1080 pp') (hpr : isPr pp' P') (hpt : okPt pp') (hp3 : ∀ j, 540 ≤ j → pp' j = pp j) (hP9 : ∀ k, k < 6 → (0 ≤ (P' k).1 ∧ (P' k).1 ≤ 3) ∧ (P' k).2.2.1 ≤ 12) (hG2 : ∀ j, j < 921 → g' j = gx j) (hG3 : ∀ j, 929 ≤ j → j ≤ 931 → g' j = gx j) (he : (emW nsl W' ∧ ∀ k, k < na' → emW nsl (H' k))) : JW cs ad g' (x + 1) im nz kz sl ho st op ai fa mu tb F' r' := by
  obtain ⟨⟨p1, p2, p3, p4⟩, p5⟩ := h2
  obtain ⟨c1, c2, c3, c4, c5⟩ := hc
  obtain ⟨f13, f14, f17, f18, f19, f20, f21, f23, f24, f25, f26, f27, f28, f29⟩ := hF
  have hna := cS.2.1
  exact JW.now (pp' := pp') (rr' := rr') (ns' := ns) (nh' := nh) (nd' := nd) h1 ⟨⟨f25.trans p1, f26.trans p2, f27.trans p3, f29.trans p4⟩, f20.trans p5⟩ ⟨(hG3 929 (by decide) (by decide)).trans ((hG1 929 (by decide)).trans c1), (hG3 930 (by decide) (by decide)).trans ((hG1 930 (by decide)).trans c2), (hG3 931 (by decide) (by decide)).trans ((hG1 931 (by decide)).trans c3), hcr, hcp⟩ ⟨hpt, ht.2⟩ ⟨cS.mv (fun _ _ _ => rfl) (fun j _ _ => hG2 j (by omega)), ⟨nu, nv, nw, rf', xKt.mv (fun j _ _ => hG2 j (by omega)) (by omega) cX, hne, hnt, hrf.1⟩, hz8, rRX, hpr, hP9⟩ hk (fun j a b => (hG2 j (by omega)).trans (hG1 j (by omega))) ⟨f18, f19⟩ hrw (fun _ _ => ⟨rfl, rfl, rfl⟩) hrf.2 (fun k hk => hp3 _ (by omega)) he hek
/-- notes and what was refused -/
theorem JW.notes (h1 : (sl = (nsl : Int) ∧ okFc sl ho 0 op ai fa mu tb ∧ ∀ k : Nat, (k : Int) < sl → 0 ≤ st k ∧ st k ≤ 90)) (h2 : plF F ∧ F 20 = kz) (hc : (g 929 = iA cs 16 ns ∧ g 930 = iA cs 16 nh ∧ g 931 = iA cs 16 nd ∧ g 932 = iA cs 6 rr ∧ g 933 = iA cs 1080 pp)) (ht : (okPt pp ∧ ∀ k, k < 16 → 0 ≤ ns k ∧ ns k ≤ 3)) (hk : jSt cs ad g 447 x kz (imF F) (imR r) (sh9 8 ns) (sh9 8 nh) (sh9 8 nd) (sh9 3 rr) (sh9 540 pp) nak Hk Wk Pk) (he : (emW nsl W ∧ ∀ k, k < na → emW nsl (H k))) (hek : (im = 1 → emW nsl Wk ∧ ∀ k, k < nak → emW nsl (Hk k))) (hRX : okRX F r x W na H) (hPr : isPr pp P) (hP9 : ∀ k, k < 6 → (0 ≤ (P k).1 ∧ (P k).1 ≤ 3) ∧ (P k).2.2.1 ≤ 12) (hne : (∀ k, k < 8 → (nu' k = ns' k ∧ nv' k = nh' k ∧ nw' k = nd' k))) (hnt : ∀ k, k < 8 → (0 ≤ nu' k ∧ nu' k ≤ 3) ∧ 0 ≤ nv' k ∧ nv' k ≤ 48) (hz8 : 0 ≤ nz' ∧ nz' ≤ 8) (cS : okState cs ad gx 11 (na : Int) nz') (cX : xKt cs ad gx 11 na H W P nz' nu' nv' nw' rf') (hrf : ∀ k, k < 3 → rf' k = rr' k) (hr3 : ∀ k, k < 3 → rr' (3 + k) = rr (3 + k)) (hs : ∀ k, k < 8 → ns' (8 + k) = ns (8 + k) ∧ nh' (8 + k) = nh (8 + k) ∧ nd' (8 + k) = nd (8 + k)) (h8 : ∀ k, k < 16 → 0 ≤ ns' k ∧ ns' k ≤ 3) (hcl : g' 929 = iA cs 16 ns' ∧ g' 930 = iA cs 16 nh' ∧ g' 931 = iA cs 16 nd' ∧ g' 932 = iA cs 6 rr') (h12 : g' 933 = g 933) (hG1 : ∀ j, 447 ≤ j → j < 883 → gx j = g j) (hG2 : ∀ j, j < 921 → g' j = gx j) (hF : (F' 15 = F 15 ∧ F' 16 = F 16 ∧ F' 18 = F 18 ∧ F' 19 = F 19 ∧ F' 20 = F 20)) (hp : (F' 25 = 0 ∧ F' 26 = -1 ∧ F' 27 = -1 ∧ F' 29 = 0)) (hrw : ∀ j, j < 350 ∨ 700 ≤ j → r' j = r j) : JW cs ad g' (x + 1) im nz' kz sl ho st op ai fa mu tb F' r' := by
  obtain ⟨c1, c2, c3, c4, c5⟩ := hc
  obtain ⟨f15, f16, f18, f19, f20⟩ := hF
  obtain ⟨k1, k2, k3, k4⟩ := hcl
  have hna := cS.2.1
  exact JW.now (pp' := pp) (rr' := rr') (ns' := ns') (nh' := nh') (nd' := nd') h1 ⟨hp, f20.trans h2.2⟩ ⟨k1, k2, k3, k4, h12.trans c5⟩ ⟨ht.1, h8⟩ ⟨cS.mv (fun _ _ _ => rfl) (fun j _ _ => hG2 j (by omega)), ⟨nu', nv', nw', rf', xKt.mv (fun j _ _ => hG2 j (by omega)) (by omega) cX, hne, hnt, hrf⟩, hz8, hRX.nx (by omega) f15 f16 (fun j hj => hrw j (by omega)), hPr, hP9⟩ hk (fun j a b => (hG2 j (by omega)).trans (hG1 j a b)) ⟨f18, f19⟩ (fun j hj => hrw j (by omega)) hs hr3 (fun _ _ => rfl) he hek
/-- an image is made -/
theorem JW.image (h1 : (sl = (nsl : Int) ∧ okFc sl ho 0 op ai fa mu tb ∧ ∀ k : Nat, (k : Int) < sl → 0 ≤ st k ∧ st k ≤ 90)) (h2 : plF F) (hn : jSt cs ad g 11 x nz F r ns nh nd rr pp na H W P) (he : (emW nsl W ∧ ∀ k, k < na → emW nsl (H k))) (hne : (∀ k, k < 8 → (nu k = ns k ∧ nv k = nh k ∧ nw k = nd k))) (hnt : ∀ k, k < 8 → (0 ≤ nu k ∧ nu k ≤ 3) ∧ 0 ≤ nv k ∧ nv k ≤ 48) (hrf : ∀ k, k < 3 → rf k = rr k) (cS : okState cs ad gx 447 (na : Int) nz) (cX : xKt cs ad gx 447 na H W P nz nu nv nw rf) (hG1 : ∀ j, 11 ≤ j → j < 447 → gx j = g j) (hG2 : ∀ j, j < 921 → g' j = gx j) (h8 : ∃ t' : Nat → Int, g' 929 = iA cs 16 t' ∧ (∀ k, k < 16 → 0 ≤ t' k ∧ t' k ≤ 3) ∧ (∀ q, q < 8 → t' (8 + q) = ns q) ∧ ∀ q, q < 8 → t' q = ns q) (h9 : ∃ t' : Nat → Int, g' 930 = iA cs 16 t' ∧ (∀ q, q < 8 → t' (8 + q) = nh q) ∧ ∀ q, q < 8 → t' q = nh q) (h10 : ∃ t' : Nat → Int, g' 931 = iA cs 16 t' ∧ (∀ q, q < 8 → t' (8 + q) = nd q) ∧ ∀ q, q < 8 → t' q = nd q) (h11 : ∃ t' : Nat → Int, g' 932 = iA cs 6 t' ∧ (∀ q, q < 3 → t' (3 + q) = rr q) ∧ ∀ q, q < 3 → t' q = rr q) (h12 : ∃ t' : Nat → Int, g' 933 = iA cs 1080 t' ∧ okPt t' ∧ (∀ q, q < 540 → t' (540 + q) = pp q) ∧ ∀ q, q < 540 → t' q = pp q) (hp : (F' 25 = 0 ∧ F' 26 = -1 ∧ F' 27 = -1 ∧ F' 29 = 0)) (f15 : F' 15 = F 15) (f16 : F' 16 = F 16) (f18 : F' 18 = F 15) (f19 : F' 19 = F 16) (f20 : F' 20 = nz) (f21 : F' 21 = 1) (ra : ∀ q, q < 350 → r' (14700 + q) = r q) (rb : ∀ q, q < 14000 → r' (15050 + q) = r (700 + q)) (rc : ∀ j, j < 14700 → r' j = r j) : JW cs ad g' (x + 1) 1 nz nz sl ho st op ai fa mu tb F' r' := by
  obtain ⟨a8, k8, b8, c8, d8⟩ := h8
  obtain ⟨a9, k9, c9, d9⟩ := h9
  obtain ⟨a10, k10, c10, d10⟩ := h10
  obtain ⟨a11, k11, c11, d11⟩ := h11
  obtain ⟨a12, k12, b12, c12, d12⟩ := h12
  have hn2 := hn.mv (y := x + 1) (F' := F') (r' := r') (g' := g') (ns' := a8) (nh' := a9) (nd' := a10) (rr' := a11) (pp' := a12) (by omega) (fun _ _ _ => rfl) (fun j j1 j2 => (hG2 j (by omega)).trans (hG1 j (by omega) (by omega))) f15 f16 (fun j hj => rc j (by omega)) (fun k hk => ⟨d8 k hk, d9 k hk, d10 k hk⟩) d11 d12
  obtain ⟨-, -, hz8, hRX, hPr, hP9⟩ := hn
  have hna := cS.2.1
  have hIX : okRX (imF F') (imR r') (x + 1) W na H := (hRX.image (F' := F') (r' := r') (y := x + 1) (by omega) f18 f19 ra rb).resolve_left (by omega)
  exact ⟨nsl, na, na, H, H, W, W, P, P, a8, a9, a10, a11, a12, h1, ⟨hp, f20⟩, ⟨k8, k9, k10, k11, k12⟩, ⟨b12, b8⟩, hn2, ⟨cS.mv (fun _ _ _ => rfl) (fun j _ _ => hG2 j (by omega)), ⟨nu, nv, nw, rf, xKt.mv (fun j _ _ => hG2 j (by omega)) (by omega) cX, fun k hk => ⟨(hne k hk).1.trans (c8 k hk).symm, (hne k hk).2.1.trans (c9 k hk).symm, (hne k hk).2.2.trans (c10 k hk).symm⟩, hnt, fun k hk => (hrf k hk).trans (c11 k hk).symm⟩, hz8, hIX, hPr.eq (fun k hk => c12 k hk), hP9⟩, he, fun _ => he⟩
/-- the image becomes the State -/
theorem JW.restore (h1 : (sl = (nsl : Int) ∧ okFc sl ho 0 op ai fa mu tb ∧ ∀ k : Nat, (k : Int) < sl → 0 ≤ st k ∧ st k ≤ 90)) (h2 : plF F ∧ F 20 = kz) (hk : jSt cs ad g 447 x kz (imF F) (imR r) (sh9 8 ns) (sh9 8 nh) (sh9 8 nd) (sh9 3 rr) (sh9 540 pp) nak Hk Wk Pk) (hek : (im = 1 → emW nsl Wk ∧ ∀ k, k < nak → emW nsl (Hk k))) (him : im = 1) (h21 : F 21 = im) (hne : ∀ k, k < 8 → (nuk k = ns (8 + k) ∧ nvk k = nh (8 + k) ∧ nwk k = nd (8 + k))) (hnt : ∀ k, k < 8 → (0 ≤ nuk k ∧ nuk k ≤ 3) ∧ 0 ≤ nvk k ∧ nvk k ≤ 48) (hrf : ∀ k, k < 3 → rfk k = rr (3 + k)) (cS : okState cs ad gx 11 (nak : Int) kz) (cX : xKt cs ad gx 11 nak Hk Wk Pk kz nuk nvk nwk rfk) (hG1 : ∀ j, 447 ≤ j → j < 883 → gx j = g j) (hG2 : ∀ j, j < 921 → g' j = gx j) (h8 : ∃ t' : Nat → Int, g' 929 = iA cs 16 t' ∧ (∀ k, k < 16 → 0 ≤ t' k ∧ t' k ≤ 3) ∧ (∀ q, q < 8 → t' q = ns (8 + q)) ∧ ∀ q, q < 8 → t' (8 + q) = ns (8 + q)) (h9 : ∃ t' : Nat → Int, g' 930 = iA cs 16 t' ∧ (∀ q, q < 8 → t' q = nh (8 + q)) ∧ ∀ q, q < 8 → t' (8 + q) = nh (8 + q)) (h10 : ∃ t' : Nat → Int, g' 931 = iA cs 16 t' ∧ (∀ q, q < 8 → t' q = nd (8 + q)) ∧ ∀ q, q < 8 → t' (8 + q) = nd (8 + q)) (h11 : ∃ t' : Nat → Int, g' 932 = iA cs 6 t' ∧ (∀ q, q < 3 → t' q = rr (3 + q)) ∧ ∀ q, q < 3 → t' (3 + q) = rr (3 + q)) (h12 : ∃ t' : Nat → Int, g' 933 = iA cs 1080 t' ∧ okPt t' ∧ (∀ q, q < 540 → t' q = pp (540 + q)) ∧ ∀ q, q < 540 → t' (540 + q) = pp (540 + q)) (hp : (F' 25 = 0 ∧ F' 26 = -1 ∧ F' 27 = -1 ∧ F' 29 = 0)) (f15 : F' 15 = F 18) (f16 : F' 16 = F 19) (f18 : F' 18 = F 18) (f19 : F' 19 = F 19) (f20 : F' 20 = F 20) (ra : ∀ q, q < 350 → r' q = r (14700 + q)) (rb : ∀ q, q < 14000 → r' (700 + q) = r (15050 + q)) (rc : ∀ j, 14700 ≤ j → r' j = r j) : JW cs ad g' (x + 1) im kz kz sl ho st op ai fa mu tb F' r' := by
  obtain ⟨a8, k8, b8, c8, d8⟩ := h8
  obtain ⟨a9, k9, c9, d9⟩ := h9
  obtain ⟨a10, k10, c10, d10⟩ := h10
  obtain ⟨a11, k11, c11, d11⟩ := h11
  obtain ⟨a12, k12, b12, c12, d12⟩ := h12
  have hk2 := hk.mv (y := x + 1) (F' := imF F') (r' := imR r') (g' := g') (ns' := sh9 8 a8) (nh' := sh9 8 a9) (nd' := sh9 8 a10) (rr' := sh9 3 a11) (pp' := sh9 540 a12) (by omega) (fun _ _ _ => rfl) (fun j j1 j2 => (hG2 j (by omega)).trans (hG1 j (by omega) (by omega))) f18 f19 (imR.eq rc) (fun k hk => ⟨d8 k hk, d9 k hk, d10 k hk⟩) d11 d12
  obtain ⟨-, -, hz8, hRX, hPr, hP9⟩ := hk
  have hna := cS.2.1
  have hIX : okIX F r x Wk nak Hk := Or.inr hRX
  have hNX : okRX F' r' (x + 1) Wk nak Hk := hIX.restore (by omega) (by omega) f15 f16 ra rb
  exact ⟨nsl, nak, nak, Hk, Hk, Wk, Wk, Pk, Pk, a8, a9, a10, a11, a12, h1, ⟨hp, f20.trans h2.2⟩, ⟨k8, k9, k10, k11, k12⟩, ⟨b12, b8⟩, ⟨cS.mv (fun _ _ _ => rfl) (fun j _ _ => hG2 j (by omega)), ⟨nuk, nvk, nwk, rfk, xKt.mv (fun j _ _ => hG2 j (by omega)) (by omega) cX, fun k hk => ⟨(hne k hk).1.trans (c8 k hk).symm, (hne k hk).2.1.trans (c9 k hk).symm, (hne k hk).2.2.trans (c10 k hk).symm⟩, hnt, fun k hk => (hrf k hk).trans (c11 k hk).symm⟩, hz8, hNX, hPr.eq (fun k hk => c12 k hk), hP9⟩, hk2, hek him, hek⟩
/-- a TEXT is taken -/
theorem JW.snowO {s : Int × Int × Int × (Nat → Int) × (Nat → Int) × (Nat → Int) × (Nat → Int) × (Nat → Int) × (Nat → Int) × (Nat → Int) × (Nat → Int) × (Nat → Nat → Int)} (hps : okPS s) (hx : 0 ≤ x) (h2 : F 20 = kz) (hc : (g 929 = iA cs 16 ns ∧ g 930 = iA cs 16 nh ∧ g 931 = iA cs 16 nd ∧ g 932 = iA cs 6 rr ∧ g 933 = iA cs 1080 pp)) (ht : (okPt pp ∧ ∀ k, k < 16 → 0 ≤ ns k ∧ ns k ≤ 3)) (hk : jSt cs ad g 447 x kz (imF F) (imR r) (sh9 8 ns) (sh9 8 nh) (sh9 8 nd) (sh9 3 rr) (sh9 540 pp) nak Hk Wk Pk) (hne : (∀ k, k < 8 → (nu k = ns k ∧ nv k = nh k ∧ nw k = nd k))) (hnt : ∀ k, k < 8 → (0 ≤ nu k ∧ nu k ≤ 3) ∧ 0 ≤ nv k ∧ nv k ≤ 48) (hrf : ∀ k, k < 3 → rf k = rr k) (hPr : isPr pp P) (hP9 : ∀ k, k < 6 → (0 ≤ (P k).1 ∧ (P k).1 ≤ 3) ∧ (P k).2.2.1 ≤ 12) (cS : okState cs ad g 11 0 0) (cX : xKt cs ad g 11 0 H (tW9 s.2.2.1 s.2.2.2.1 s.2.2.2.2.2.2.2.2.2.2.2) P 0 nu nv nw rf) (hG2 : ∀ j, j < 921 → g' j = g j) (hG3 : ∀ j, 929 ≤ j → j ≤ 933 → g' j = g j) (f15 : F' 15 = 0) (f16 : F' 16 = 0) (f18 : F' 18 = F 18) (f19 : F' 19 = F 19) (f20 : F' 20 = F 20) (hp : (F' 25 = 0 ∧ F' 26 = -1 ∧ F' 27 = -1 ∧ F' 29 = 0)) (hT : rwT s r') (hrw : ∀ j, 350 ≤ j → r' j = r j) : JW cs ad g' (x + 1) 0 0 kz s.1 s.2.1 s.2.2.2.2.1 s.2.2.2.2.2.1 s.2.2.2.2.2.2.1 s.2.2.2.2.2.2.2.1 s.2.2.2.2.2.2.2.2.1 s.2.2.2.2.2.2.2.2.2.1 F' r' := by
  obtain ⟨c1, c2, c3, c4, c5⟩ := hc
  have h0 := hps.1.1
  obtain ⟨n, hn⟩ : ∃ n : Nat, s.1 = (n : Int) := ⟨(s.1).toNat, by omega⟩
  have hem := hps.em hn
  have hmn : ∀ k, k < 4 → 0 ≤ s.2.2.2.1 k ∧ s.2.2.2.1 k ≤ 12 := hps.2.2.2.2.1.1
  have hRX : okRX F' r' (x + 1) (tW9 s.2.2.1 s.2.2.2.1 s.2.2.2.2.2.2.2.2.2.2.2) 0 H := ⟨⟨tW_wr hT hmn, hps.wl (by omega)⟩, ⟨0, ⟨f15, f16⟩, ⟨by decide, by decide⟩, fun k hk => absurd hk (Nat.not_lt_zero k)⟩, fun k hk => absurd hk (Nat.not_lt_zero k)⟩
  have hk2 := hk.mv (y := x + 1) (F' := imF F') (r' := imR r') (g' := g') (ns' := sh9 8 ns) (nh' := sh9 8 nh) (nd' := sh9 8 nd) (rr' := sh9 3 rr) (pp' := sh9 540 pp) (by omega) (fun _ _ _ => rfl) (fun j j1 j2 => hG2 j (by omega)) f18 f19 (imR.eq (fun j hj => hrw j (by omega))) (fun _ _ => ⟨rfl, rfl, rfl⟩) (fun _ _ => rfl) (fun _ _ => rfl)
  exact ⟨n, 0, nak, H, Hk, (tW9 s.2.2.1 s.2.2.2.1 s.2.2.2.2.2.2.2.2.2.2.2), Wk, P, Pk, ns, nh, nd, rr, pp, ⟨hn, hps.fc, fun k hk => (hps.2.1 k hk).1⟩, ⟨hp, f20.trans h2⟩, ⟨(hG3 _ (by decide) (by decide)).trans c1, (hG3 _ (by decide) (by decide)).trans c2, (hG3 _ (by decide) (by decide)).trans c3, (hG3 _ (by decide) (by decide)).trans c4, (hG3 _ (by decide) (by decide)).trans c5⟩, ht, ⟨cS.mv (fun _ _ _ => rfl) (fun j _ _ => hG2 j (by omega)), ⟨nu, nv, nw, rf, xKt.mv (fun j _ _ => hG2 j (by omega)) (by omega) cX, hne, hnt, hrf⟩, ⟨by decide, by decide⟩, hRX, hPr, hP9⟩, hk2, ⟨hem, fun k hk => absurd hk (Nat.not_lt_zero k)⟩, fun e => absurd e (by decide)⟩
end JWT
theorem isWl.zero {cs : Nat → ClassId} {ad : Nat → Nat} {g : Nat → va_E} {a : Nat} (h : isWorld cs ad g a (fun _ => 0) (fun _ => 0) (fun _ => 0) (fun _ _ => 0)) : isWl cs ad g a zW9 := by
  obtain ⟨h2, h3, h4⟩ := h
  exact ⟨h2, h3, fun k hk => ⟨fun _ => 0, h4 k hk, fun j f hj _ => absurd hj (Nat.not_lt_zero j)⟩⟩
def zP9 : Nat → PT9 := fun _ => (0, 0, 0, fun _ => 0)
theorem isSt.xKt {cs : Nat → ClassId} {ad : Nat → Nat} {g : Nat → va_E} {i : Nat} (h : isSt cs ad g i) : xKt cs ad g i 0 (fun _ => zW9) zW9 zP9 0 (fun _ => 0) (fun _ => 0) (fun _ => 0) (fun _ => 0) := by
  obtain ⟨h1, h2, ⟨b1, h3, h4⟩, h5, h7, h8, h9, h10⟩ := h
  exact ⟨h1, isWl.zero h2, ⟨b1, fun k => k, ⟨h3, fun k hk => ⟨hk, h4 k hk⟩⟩, fun j k _ _ e => e, fun k hk => absurd hk (Nat.not_lt_zero k)⟩, fun k hk => ⟨(h10 k hk).1, 0, fun _ => 0, (h10 k hk).2, fun j f hj _ => absurd hj (Nat.not_lt_zero j)⟩, h7, h8⟩
theorem isPr.zero {pp : Nat → Int} (h : ∀ k, pp k = 0) : isPr pp zP9 := fun k hk => ⟨⟨h _, h _, h _, (by decide : 0 ≤ 12)⟩, fun q hq => absurd hq (Nat.not_lt_zero q)⟩
theorem JW.fresh {cs : Nat → ClassId} {ad : Nat → Nat} {g : Nat → va_E} {F r n8 n9 n10 n11 n12 : Nat → Int} (s11 : isSt cs ad g 11) (s447 : isSt cs ad g 447) (o11 : okState cs ad g 11 0 0) (o447 : okState cs ad g 447 0 0) (hp : plF F) (h20 : F 20 = 0) (h15 : F 15 = 0) (h16 : F 16 = 0) (h18 : F 18 = 0) (h19 : F 19 = 0) (hr : ∀ j, r j = 0) (c8 : g 929 = iA cs 16 n8) (c9 : g 930 = iA cs 16 n9) (c10 : g 931 = iA cs 16 n10) (c11 : g 932 = iA cs 6 n11) (c12 : g 933 = iA cs 1080 n12) (z8 : ∀ j, n8 j = 0) (z9 : ∀ j, n9 j = 0) (z10 : ∀ j, n10 j = 0) (z11 : ∀ j, n11 j = 0) (z12 : ∀ j, n12 j = 0) (hpt : okPt n12) : JW cs ad g 0 0 0 0 0 0 (fun _ => 0) (fun _ => 0) (fun _ => 0) (fun _ => 0) (fun _ => 0) tabZ F r := by
  have hir : ∀ j, j < 350 → imR r j = 0 := fun j hj => by
    show (if j < 350 then r (14700 + j) else r (j + 14350)) = 0
    rw [if_pos hj]; exact hr _
  exact ⟨0, 0, 0, fun _ => zW9, fun _ => zW9, zW9, zW9, zP9, zP9, n8, n9, n10, n11, n12, ⟨rfl, ⟨by decide, by decide, fun k hk => absurd hk (by omega), fun k hk => absurd hk (by omega), fun k hk => absurd hk (by omega), okTb.std⟩, fun k hk => absurd hk (by omega)⟩, ⟨hp, h20⟩, ⟨c8, c9, c10, c11, c12⟩, ⟨hpt, fun k _ => by have := z8 k; omega⟩, ⟨o11, ⟨_, _, _, _, s11.xKt, fun k _ => ⟨(z8 k).symm, (z9 k).symm, (z10 k).symm⟩, fun _ _ => ⟨by decide, by decide⟩, fun k _ => (z11 k).symm⟩, by decide, okRX.fresh h15 h16 (fun j _ => hr j) (Int.le_refl 0), isPr.zero z12, fun _ _ => ⟨(by decide : (0 : Int) ≤ 0 ∧ (0 : Int) ≤ 3), (by decide : 0 ≤ 12)⟩⟩, ⟨o447, ⟨_, _, _, _, s447.xKt, fun k _ => ⟨(z8 (8 + k)).symm, (z9 (8 + k)).symm, (z10 (8 + k)).symm⟩, fun _ _ => ⟨by decide, by decide⟩, fun k _ => (z11 (3 + k)).symm⟩, by decide, okRX.fresh h18 h19 hir (Int.le_refl 0), isPr.zero (fun k => z12 (540 + k)), fun _ _ => ⟨(by decide : (0 : Int) ≤ 0 ∧ (0 : Int) ≤ 3), (by decide : 0 ≤ 12)⟩⟩, ⟨emW.zero 0, fun k hk => absurd hk (Nat.not_lt_zero k)⟩, fun e => absurd e (by decide)⟩
end
section
-- 9nb.words.lean.txt
-- words of lhelp
theorem n_660 : (Jvm.Cond.castable "java/lang/IllegalArgumentException" "java/lang/IllegalArgumentException") ∈ NW := NW_m3 180 (by decide +kernel) (by decide +kernel)
theorem n_906 : (Jvm.Cond.castable "java/util/NoSuchElementException" "java/util/NoSuchElementException") ∈ NW := NW_m4 186 (by decide +kernel) (by decide +kernel)
theorem q_0 : (Jvm.Cond.initialized "SnowRecorderLaw") ∈ AW := AW_m1 0 (by decide +kernel) (by decide +kernel)
theorem q_1214 : (Jvm.Cond.static ({ cls := "SnowRecorderLaw", name := "then", desc := "(LSnowRecorder;III[J)I" } : Jvm.MethodName)) ∈ AW := AW_m6 14 (by decide +kernel) (by decide +kernel)
theorem q_1215 : (Jvm.Cond.codeWith ({ cls := "SnowRecorderLaw", name := "then", desc := "(LSnowRecorder;III[J)I" } : Jvm.MethodName) method_9_code (6 : Nat) (Option.some Jvm.ClassFile.FieldType.int) [((0 : Nat), (12 : Nat), (15 : Nat), (18 : Nat)), ((0 : Nat), (12 : Nat), (19 : Nat), (13 : Nat))]) ∈ AW := AW_m6 15 (by decide +kernel) (by decide +kernel)
theorem q_1216 : (Jvm.Cond.methodLink "SnowRecorderLaw" (34 : Nat) ({ cls := "SnowRecorder", name := "then", desc := "(III)I" } : Jvm.MethodName)) ∈ AW := AW_m6 16 (by decide +kernel) (by decide +kernel)
theorem q_1217 : (Jvm.Cond.instanceMethod ({ cls := "SnowRecorder", name := "then", desc := "(III)I" } : Jvm.MethodName)) ∈ AW := AW_m6 17 (by decide +kernel) (by decide +kernel)
theorem q_1218 : (Jvm.Cond.selects "SnowRecorder" ({ cls := "SnowRecorder", name := "then", desc := "(III)I" } : Jvm.MethodName) ({ cls := "SnowRecorder", name := "then", desc := "(III)I" } : Jvm.MethodName)) ∈ AW := AW_m6 18 (by decide +kernel) (by decide +kernel)
theorem q_1219 : (Jvm.Cond.code ({ cls := "SnowRecorder", name := "then", desc := "(III)I" } : Jvm.MethodName) prog_1_method_16_code (6 : Nat) (Option.some Jvm.ClassFile.FieldType.int)) ∈ AW := AW_m6 19 (by decide +kernel) (by decide +kernel)
theorem q_1234 : (Jvm.Cond.static ({ cls := "SnowRecorderLaw", name := "once", desc := "(LSnowRecorder;II[J)I" } : Jvm.MethodName)) ∈ AW := AW_m6 34 (by decide +kernel) (by decide +kernel)
theorem q_1235 : (Jvm.Cond.codeWith ({ cls := "SnowRecorderLaw", name := "once", desc := "(LSnowRecorder;II[J)I" } : Jvm.MethodName) method_10_code (5 : Nat) (Option.some Jvm.ClassFile.FieldType.int) [((0 : Nat), (10 : Nat), (13 : Nat), (18 : Nat))]) ∈ AW := AW_m6 35 (by decide +kernel) (by decide +kernel)
theorem q_1236 : (Jvm.Cond.methodLink "SnowRecorderLaw" (37 : Nat) ({ cls := "SnowRecorder", name := "once", desc := "(II)I" } : Jvm.MethodName)) ∈ AW := AW_m6 36 (by decide +kernel) (by decide +kernel)
theorem q_1237 : (Jvm.Cond.instanceMethod ({ cls := "SnowRecorder", name := "once", desc := "(II)I" } : Jvm.MethodName)) ∈ AW := AW_m6 37 (by decide +kernel) (by decide +kernel)
theorem q_1238 : (Jvm.Cond.selects "SnowRecorder" ({ cls := "SnowRecorder", name := "once", desc := "(II)I" } : Jvm.MethodName) ({ cls := "SnowRecorder", name := "once", desc := "(II)I" } : Jvm.MethodName)) ∈ AW := AW_m6 38 (by decide +kernel) (by decide +kernel)
theorem q_1239 : (Jvm.Cond.code ({ cls := "SnowRecorder", name := "once", desc := "(II)I" } : Jvm.MethodName) prog_1_method_17_code (5 : Nat) (Option.some Jvm.ClassFile.FieldType.int)) ∈ AW := AW_m6 39 (by decide +kernel) (by decide +kernel)
theorem q_1241 : (Jvm.Cond.static ({ cls := "SnowRecorderLaw", name := "gone", desc := "(LSnowRecorder;I[J)I" } : Jvm.MethodName)) ∈ AW := AW_m6 41 (by decide +kernel) (by decide +kernel)
theorem q_1242 : (Jvm.Cond.codeWith ({ cls := "SnowRecorderLaw", name := "gone", desc := "(LSnowRecorder;I[J)I" } : Jvm.MethodName) method_11_code (4 : Nat) (Option.some Jvm.ClassFile.FieldType.int) [((0 : Nat), (9 : Nat), (12 : Nat), (18 : Nat))]) ∈ AW := AW_m6 42 (by decide +kernel) (by decide +kernel)
theorem q_1243 : (Jvm.Cond.methodLink "SnowRecorderLaw" (40 : Nat) ({ cls := "SnowRecorder", name := "gone", desc := "(I)I" } : Jvm.MethodName)) ∈ AW := AW_m6 43 (by decide +kernel) (by decide +kernel)
theorem q_1244 : (Jvm.Cond.instanceMethod ({ cls := "SnowRecorder", name := "gone", desc := "(I)I" } : Jvm.MethodName)) ∈ AW := AW_m6 44 (by decide +kernel) (by decide +kernel)
theorem q_1245 : (Jvm.Cond.selects "SnowRecorder" ({ cls := "SnowRecorder", name := "gone", desc := "(I)I" } : Jvm.MethodName) ({ cls := "SnowRecorder", name := "gone", desc := "(I)I" } : Jvm.MethodName)) ∈ AW := AW_m6 45 (by decide +kernel) (by decide +kernel)
theorem q_1246 : (Jvm.Cond.code ({ cls := "SnowRecorder", name := "gone", desc := "(I)I" } : Jvm.MethodName) prog_1_method_18_code (3 : Nat) (Option.some Jvm.ClassFile.FieldType.int)) ∈ AW := AW_m6 46 (by decide +kernel) (by decide +kernel)
theorem q_1257 : (Jvm.Cond.static ({ cls := "SnowRecorderLaw", name := "stands", desc := "(LSnowRecorder;II[J)I" } : Jvm.MethodName)) ∈ AW := AW_m6 57 (by decide +kernel) (by decide +kernel)
theorem q_1258 : (Jvm.Cond.codeWith ({ cls := "SnowRecorderLaw", name := "stands", desc := "(LSnowRecorder;II[J)I" } : Jvm.MethodName) method_12_code (5 : Nat) (Option.some Jvm.ClassFile.FieldType.int) [((0 : Nat), (10 : Nat), (13 : Nat), (18 : Nat))]) ∈ AW := AW_m6 58 (by decide +kernel) (by decide +kernel)
theorem q_1259 : (Jvm.Cond.methodLink "SnowRecorderLaw" (43 : Nat) ({ cls := "SnowRecorder", name := "stands", desc := "(II)I" } : Jvm.MethodName)) ∈ AW := AW_m6 59 (by decide +kernel) (by decide +kernel)
theorem q_1260 : (Jvm.Cond.instanceMethod ({ cls := "SnowRecorder", name := "stands", desc := "(II)I" } : Jvm.MethodName)) ∈ AW := AW_m6 60 (by decide +kernel) (by decide +kernel)
theorem q_1261 : (Jvm.Cond.selects "SnowRecorder" ({ cls := "SnowRecorder", name := "stands", desc := "(II)I" } : Jvm.MethodName) ({ cls := "SnowRecorder", name := "stands", desc := "(II)I" } : Jvm.MethodName)) ∈ AW := AW_m6 61 (by decide +kernel) (by decide +kernel)
theorem q_1262 : (Jvm.Cond.code ({ cls := "SnowRecorder", name := "stands", desc := "(II)I" } : Jvm.MethodName) prog_1_method_19_code (6 : Nat) (Option.some Jvm.ClassFile.FieldType.int)) ∈ AW := AW_m6 62 (by decide +kernel) (by decide +kernel)
theorem q_1268 : (Jvm.Cond.static ({ cls := "SnowRecorderLaw", name := "toLoad", desc := "(LSnowRecorder;I[J)I" } : Jvm.MethodName)) ∈ AW := AW_m6 68 (by decide +kernel) (by decide +kernel)
theorem q_1269 : (Jvm.Cond.codeWith ({ cls := "SnowRecorderLaw", name := "toLoad", desc := "(LSnowRecorder;I[J)I" } : Jvm.MethodName) method_13_code (4 : Nat) (Option.some Jvm.ClassFile.FieldType.int) [((0 : Nat), (9 : Nat), (12 : Nat), (18 : Nat))]) ∈ AW := AW_m6 69 (by decide +kernel) (by decide +kernel)
theorem q_1270 : (Jvm.Cond.methodLink "SnowRecorderLaw" (46 : Nat) ({ cls := "SnowRecorder", name := "toLoad", desc := "(I)I" } : Jvm.MethodName)) ∈ AW := AW_m6 70 (by decide +kernel) (by decide +kernel)
theorem q_1271 : (Jvm.Cond.instanceMethod ({ cls := "SnowRecorder", name := "toLoad", desc := "(I)I" } : Jvm.MethodName)) ∈ AW := AW_m6 71 (by decide +kernel) (by decide +kernel)
theorem q_1272 : (Jvm.Cond.selects "SnowRecorder" ({ cls := "SnowRecorder", name := "toLoad", desc := "(I)I" } : Jvm.MethodName) ({ cls := "SnowRecorder", name := "toLoad", desc := "(I)I" } : Jvm.MethodName)) ∈ AW := AW_m6 72 (by decide +kernel) (by decide +kernel)
theorem q_1273 : (Jvm.Cond.code ({ cls := "SnowRecorder", name := "toLoad", desc := "(I)I" } : Jvm.MethodName) prog_1_method_20_code (4 : Nat) (Option.some Jvm.ClassFile.FieldType.int)) ∈ AW := AW_m6 73 (by decide +kernel) (by decide +kernel)
theorem q_1275 : (Jvm.Cond.static ({ cls := "SnowRecorderLaw", name := "steepest", desc := "(LSnowRecorder;I[J)I" } : Jvm.MethodName)) ∈ AW := AW_m6 75 (by decide +kernel) (by decide +kernel)
theorem q_1276 : (Jvm.Cond.codeWith ({ cls := "SnowRecorderLaw", name := "steepest", desc := "(LSnowRecorder;I[J)I" } : Jvm.MethodName) method_14_code (4 : Nat) (Option.some Jvm.ClassFile.FieldType.int) [((0 : Nat), (9 : Nat), (12 : Nat), (18 : Nat))]) ∈ AW := AW_m6 76 (by decide +kernel) (by decide +kernel)
theorem q_1277 : (Jvm.Cond.methodLink "SnowRecorderLaw" (49 : Nat) ({ cls := "SnowRecorder", name := "steepest", desc := "(I)I" } : Jvm.MethodName)) ∈ AW := AW_m6 77 (by decide +kernel) (by decide +kernel)
theorem q_1278 : (Jvm.Cond.instanceMethod ({ cls := "SnowRecorder", name := "steepest", desc := "(I)I" } : Jvm.MethodName)) ∈ AW := AW_m6 78 (by decide +kernel) (by decide +kernel)
theorem q_1279 : (Jvm.Cond.selects "SnowRecorder" ({ cls := "SnowRecorder", name := "steepest", desc := "(I)I" } : Jvm.MethodName) ({ cls := "SnowRecorder", name := "steepest", desc := "(I)I" } : Jvm.MethodName)) ∈ AW := AW_m6 79 (by decide +kernel) (by decide +kernel)
theorem q_1280 : (Jvm.Cond.code ({ cls := "SnowRecorder", name := "steepest", desc := "(I)I" } : Jvm.MethodName) prog_1_method_21_code (4 : Nat) (Option.some Jvm.ClassFile.FieldType.int)) ∈ AW := AW_m6 80 (by decide +kernel) (by decide +kernel)
theorem q_1282 : (Jvm.Cond.static ({ cls := "SnowRecorderLaw", name := "toWarm", desc := "(LSnowRecorder;II[J)I" } : Jvm.MethodName)) ∈ AW := AW_m6 82 (by decide +kernel) (by decide +kernel)
theorem q_1283 : (Jvm.Cond.codeWith ({ cls := "SnowRecorderLaw", name := "toWarm", desc := "(LSnowRecorder;II[J)I" } : Jvm.MethodName) method_15_code (5 : Nat) (Option.some Jvm.ClassFile.FieldType.int) [((0 : Nat), (10 : Nat), (13 : Nat), (18 : Nat)), ((0 : Nat), (10 : Nat), (17 : Nat), (13 : Nat))]) ∈ AW := AW_m6 83 (by decide +kernel) (by decide +kernel)
theorem q_1284 : (Jvm.Cond.methodLink "SnowRecorderLaw" (52 : Nat) ({ cls := "SnowRecorder", name := "toWarm", desc := "(II)I" } : Jvm.MethodName)) ∈ AW := AW_m6 84 (by decide +kernel) (by decide +kernel)
theorem q_1285 : (Jvm.Cond.instanceMethod ({ cls := "SnowRecorder", name := "toWarm", desc := "(II)I" } : Jvm.MethodName)) ∈ AW := AW_m6 85 (by decide +kernel) (by decide +kernel)
theorem q_1286 : (Jvm.Cond.selects "SnowRecorder" ({ cls := "SnowRecorder", name := "toWarm", desc := "(II)I" } : Jvm.MethodName) ({ cls := "SnowRecorder", name := "toWarm", desc := "(II)I" } : Jvm.MethodName)) ∈ AW := AW_m6 86 (by decide +kernel) (by decide +kernel)
theorem q_1287 : (Jvm.Cond.code ({ cls := "SnowRecorder", name := "toWarm", desc := "(II)I" } : Jvm.MethodName) prog_1_method_22_code (4 : Nat) (Option.some Jvm.ClassFile.FieldType.int)) ∈ AW := AW_m6 87 (by decide +kernel) (by decide +kernel)
theorem q_1298 : (Jvm.Cond.static ({ cls := "SnowRecorderLaw", name := "matters", desc := "(LSnowRecorder;III[J)I" } : Jvm.MethodName)) ∈ AW := AW_m6 98 (by decide +kernel) (by decide +kernel)
theorem q_1299 : (Jvm.Cond.codeWith ({ cls := "SnowRecorderLaw", name := "matters", desc := "(LSnowRecorder;III[J)I" } : Jvm.MethodName) method_16_code (6 : Nat) (Option.some Jvm.ClassFile.FieldType.int) [((0 : Nat), (12 : Nat), (15 : Nat), (18 : Nat)), ((0 : Nat), (12 : Nat), (19 : Nat), (13 : Nat))]) ∈ AW := AW_m6 99 (by decide +kernel) (by decide +kernel)
theorem q_1300 : (Jvm.Cond.methodLink "SnowRecorderLaw" (55 : Nat) ({ cls := "SnowRecorder", name := "matters", desc := "(III)I" } : Jvm.MethodName)) ∈ AW := AW_m6 100 (by decide +kernel) (by decide +kernel)
theorem q_1301 : (Jvm.Cond.instanceMethod ({ cls := "SnowRecorder", name := "matters", desc := "(III)I" } : Jvm.MethodName)) ∈ AW := AW_m6 101 (by decide +kernel) (by decide +kernel)
theorem q_1302 : (Jvm.Cond.selects "SnowRecorder" ({ cls := "SnowRecorder", name := "matters", desc := "(III)I" } : Jvm.MethodName) ({ cls := "SnowRecorder", name := "matters", desc := "(III)I" } : Jvm.MethodName)) ∈ AW := AW_m6 102 (by decide +kernel) (by decide +kernel)
theorem q_1303 : (Jvm.Cond.code ({ cls := "SnowRecorder", name := "matters", desc := "(III)I" } : Jvm.MethodName) prog_1_method_23_code (9 : Nat) (Option.some Jvm.ClassFile.FieldType.int)) ∈ AW := AW_m6 103 (by decide +kernel) (by decide +kernel)
theorem q_1310 : (Jvm.Cond.static ({ cls := "SnowRecorderLaw", name := "pitOf", desc := "(LSnowRecorder;II[J)I" } : Jvm.MethodName)) ∈ AW := AW_m6 110 (by decide +kernel) (by decide +kernel)
theorem q_1311 : (Jvm.Cond.codeWith ({ cls := "SnowRecorderLaw", name := "pitOf", desc := "(LSnowRecorder;II[J)I" } : Jvm.MethodName) method_17_code (5 : Nat) (Option.some Jvm.ClassFile.FieldType.int) [((0 : Nat), (10 : Nat), (13 : Nat), (18 : Nat))]) ∈ AW := AW_m6 111 (by decide +kernel) (by decide +kernel)
theorem q_1312 : (Jvm.Cond.methodLink "SnowRecorderLaw" (58 : Nat) ({ cls := "SnowRecorder", name := "pitOf", desc := "(II)I" } : Jvm.MethodName)) ∈ AW := AW_m6 112 (by decide +kernel) (by decide +kernel)
theorem q_1313 : (Jvm.Cond.instanceMethod ({ cls := "SnowRecorder", name := "pitOf", desc := "(II)I" } : Jvm.MethodName)) ∈ AW := AW_m6 113 (by decide +kernel) (by decide +kernel)
theorem q_1314 : (Jvm.Cond.selects "SnowRecorder" ({ cls := "SnowRecorder", name := "pitOf", desc := "(II)I" } : Jvm.MethodName) ({ cls := "SnowRecorder", name := "pitOf", desc := "(II)I" } : Jvm.MethodName)) ∈ AW := AW_m6 114 (by decide +kernel) (by decide +kernel)
theorem q_1315 : (Jvm.Cond.code ({ cls := "SnowRecorder", name := "pitOf", desc := "(II)I" } : Jvm.MethodName) prog_1_method_24_code (3 : Nat) (Option.some Jvm.ClassFile.FieldType.int)) ∈ AW := AW_m6 115 (by decide +kernel) (by decide +kernel)
theorem q_1323 : (Jvm.Cond.static ({ cls := "SnowRecorderLaw", name := "compare", desc := "(LSnowRecorder;III[J)I" } : Jvm.MethodName)) ∈ AW := AW_m6 123 (by decide +kernel) (by decide +kernel)
theorem q_1324 : (Jvm.Cond.codeWith ({ cls := "SnowRecorderLaw", name := "compare", desc := "(LSnowRecorder;III[J)I" } : Jvm.MethodName) method_18_code (6 : Nat) (Option.some Jvm.ClassFile.FieldType.int) [((0 : Nat), (12 : Nat), (15 : Nat), (18 : Nat))]) ∈ AW := AW_m6 124 (by decide +kernel) (by decide +kernel)
theorem q_1325 : (Jvm.Cond.methodLink "SnowRecorderLaw" (61 : Nat) ({ cls := "SnowRecorder", name := "compare", desc := "(III)I" } : Jvm.MethodName)) ∈ AW := AW_m6 125 (by decide +kernel) (by decide +kernel)
theorem q_1326 : (Jvm.Cond.instanceMethod ({ cls := "SnowRecorder", name := "compare", desc := "(III)I" } : Jvm.MethodName)) ∈ AW := AW_m6 126 (by decide +kernel) (by decide +kernel)
theorem q_1327 : (Jvm.Cond.selects "SnowRecorder" ({ cls := "SnowRecorder", name := "compare", desc := "(III)I" } : Jvm.MethodName) ({ cls := "SnowRecorder", name := "compare", desc := "(III)I" } : Jvm.MethodName)) ∈ AW := AW_m6 127 (by decide +kernel) (by decide +kernel)
theorem q_1328 : (Jvm.Cond.code ({ cls := "SnowRecorder", name := "compare", desc := "(III)I" } : Jvm.MethodName) prog_1_method_25_code (6 : Nat) (Option.some Jvm.ClassFile.FieldType.int)) ∈ AW := AW_m6 128 (by decide +kernel) (by decide +kernel)
theorem q_1350 : (Jvm.Cond.static ({ cls := "SnowRecorderLaw", name := "nearest", desc := "(LSnowRecorder;I[J)I" } : Jvm.MethodName)) ∈ AW := AW_m6 150 (by decide +kernel) (by decide +kernel)
theorem q_1351 : (Jvm.Cond.codeWith ({ cls := "SnowRecorderLaw", name := "nearest", desc := "(LSnowRecorder;I[J)I" } : Jvm.MethodName) method_19_code (4 : Nat) (Option.some Jvm.ClassFile.FieldType.int) [((0 : Nat), (9 : Nat), (12 : Nat), (18 : Nat))]) ∈ AW := AW_m6 151 (by decide +kernel) (by decide +kernel)
theorem q_1352 : (Jvm.Cond.methodLink "SnowRecorderLaw" (64 : Nat) ({ cls := "SnowRecorder", name := "nearest", desc := "(I)I" } : Jvm.MethodName)) ∈ AW := AW_m6 152 (by decide +kernel) (by decide +kernel)
theorem q_1353 : (Jvm.Cond.instanceMethod ({ cls := "SnowRecorder", name := "nearest", desc := "(I)I" } : Jvm.MethodName)) ∈ AW := AW_m6 153 (by decide +kernel) (by decide +kernel)
theorem q_1354 : (Jvm.Cond.selects "SnowRecorder" ({ cls := "SnowRecorder", name := "nearest", desc := "(I)I" } : Jvm.MethodName) ({ cls := "SnowRecorder", name := "nearest", desc := "(I)I" } : Jvm.MethodName)) ∈ AW := AW_m6 154 (by decide +kernel) (by decide +kernel)
theorem q_1355 : (Jvm.Cond.code ({ cls := "SnowRecorder", name := "nearest", desc := "(I)I" } : Jvm.MethodName) prog_1_method_26_code (6 : Nat) (Option.some Jvm.ClassFile.FieldType.int)) ∈ AW := AW_m6 155 (by decide +kernel) (by decide +kernel)
theorem q_1357 : (Jvm.Cond.static ({ cls := "SnowRecorderLaw", name := "falls", desc := "(LSnowRecorder;I[J)I" } : Jvm.MethodName)) ∈ AW := AW_m6 157 (by decide +kernel) (by decide +kernel)
theorem q_1358 : (Jvm.Cond.codeWith ({ cls := "SnowRecorderLaw", name := "falls", desc := "(LSnowRecorder;I[J)I" } : Jvm.MethodName) method_20_code (4 : Nat) (Option.some Jvm.ClassFile.FieldType.int) [((0 : Nat), (9 : Nat), (12 : Nat), (18 : Nat))]) ∈ AW := AW_m6 158 (by decide +kernel) (by decide +kernel)
theorem q_1359 : (Jvm.Cond.methodLink "SnowRecorderLaw" (67 : Nat) ({ cls := "SnowRecorder", name := "falls", desc := "(I)I" } : Jvm.MethodName)) ∈ AW := AW_m6 159 (by decide +kernel) (by decide +kernel)
theorem q_1360 : (Jvm.Cond.instanceMethod ({ cls := "SnowRecorder", name := "falls", desc := "(I)I" } : Jvm.MethodName)) ∈ AW := AW_m6 160 (by decide +kernel) (by decide +kernel)
theorem q_1361 : (Jvm.Cond.selects "SnowRecorder" ({ cls := "SnowRecorder", name := "falls", desc := "(I)I" } : Jvm.MethodName) ({ cls := "SnowRecorder", name := "falls", desc := "(I)I" } : Jvm.MethodName)) ∈ AW := AW_m6 161 (by decide +kernel) (by decide +kernel)
theorem q_1362 : (Jvm.Cond.code ({ cls := "SnowRecorder", name := "falls", desc := "(I)I" } : Jvm.MethodName) prog_1_method_28_code (3 : Nat) (Option.some Jvm.ClassFile.FieldType.int)) ∈ AW := AW_m6 162 (by decide +kernel) (by decide +kernel)
theorem q_1402 : (Jvm.Cond.static ({ cls := "SnowRecorderLaw", name := "look", desc := "(LSnowRecorder;I[J)I" } : Jvm.MethodName)) ∈ AW := AW_m6 202 (by decide +kernel) (by decide +kernel)
theorem q_1403 : (Jvm.Cond.codeWith ({ cls := "SnowRecorderLaw", name := "look", desc := "(LSnowRecorder;I[J)I" } : Jvm.MethodName) method_21_code (4 : Nat) (Option.some Jvm.ClassFile.FieldType.int) [((0 : Nat), (9 : Nat), (12 : Nat), (18 : Nat))]) ∈ AW := AW_m6 203 (by decide +kernel) (by decide +kernel)
theorem q_1404 : (Jvm.Cond.methodLink "SnowRecorderLaw" (70 : Nat) ({ cls := "SnowRecorder", name := "look", desc := "(I)I" } : Jvm.MethodName)) ∈ AW := AW_m6 204 (by decide +kernel) (by decide +kernel)
theorem q_1405 : (Jvm.Cond.instanceMethod ({ cls := "SnowRecorder", name := "look", desc := "(I)I" } : Jvm.MethodName)) ∈ AW := AW_m6 205 (by decide +kernel) (by decide +kernel)
theorem q_1406 : (Jvm.Cond.selects "SnowRecorder" ({ cls := "SnowRecorder", name := "look", desc := "(I)I" } : Jvm.MethodName) ({ cls := "SnowRecorder", name := "look", desc := "(I)I" } : Jvm.MethodName)) ∈ AW := AW_m6 206 (by decide +kernel) (by decide +kernel)
theorem q_1407 : (Jvm.Cond.code ({ cls := "SnowRecorder", name := "look", desc := "(I)I" } : Jvm.MethodName) prog_1_method_29_code (5 : Nat) (Option.some Jvm.ClassFile.FieldType.int)) ∈ AW := AW_m6 207 (by decide +kernel) (by decide +kernel)
theorem q_1409 : (Jvm.Cond.static ({ cls := "SnowRecorderLaw", name := "odds", desc := "(LSnowRecorder;III[J)I" } : Jvm.MethodName)) ∈ AW := AW_m6 209 (by decide +kernel) (by decide +kernel)
theorem q_1410 : (Jvm.Cond.codeWith ({ cls := "SnowRecorderLaw", name := "odds", desc := "(LSnowRecorder;III[J)I" } : Jvm.MethodName) method_22_code (6 : Nat) (Option.some Jvm.ClassFile.FieldType.int) [((0 : Nat), (12 : Nat), (15 : Nat), (18 : Nat)), ((0 : Nat), (12 : Nat), (19 : Nat), (13 : Nat))]) ∈ AW := AW_m6 210 (by decide +kernel) (by decide +kernel)
theorem q_1411 : (Jvm.Cond.methodLink "SnowRecorderLaw" (73 : Nat) ({ cls := "SnowRecorder", name := "odds", desc := "(III)I" } : Jvm.MethodName)) ∈ AW := AW_m6 211 (by decide +kernel) (by decide +kernel)
theorem q_1412 : (Jvm.Cond.instanceMethod ({ cls := "SnowRecorder", name := "odds", desc := "(III)I" } : Jvm.MethodName)) ∈ AW := AW_m6 212 (by decide +kernel) (by decide +kernel)
theorem q_1413 : (Jvm.Cond.selects "SnowRecorder" ({ cls := "SnowRecorder", name := "odds", desc := "(III)I" } : Jvm.MethodName) ({ cls := "SnowRecorder", name := "odds", desc := "(III)I" } : Jvm.MethodName)) ∈ AW := AW_m6 213 (by decide +kernel) (by decide +kernel)
theorem q_1414 : (Jvm.Cond.code ({ cls := "SnowRecorder", name := "odds", desc := "(III)I" } : Jvm.MethodName) prog_1_method_31_code (7 : Nat) (Option.some Jvm.ClassFile.FieldType.int)) ∈ AW := AW_m6 214 (by decide +kernel) (by decide +kernel)
theorem q_1426 : (Jvm.Cond.static ({ cls := "SnowRecorderLaw", name := "years", desc := "(LSnowRecorder;III[J)I" } : Jvm.MethodName)) ∈ AW := AW_m6 226 (by decide +kernel) (by decide +kernel)
theorem q_1427 : (Jvm.Cond.codeWith ({ cls := "SnowRecorderLaw", name := "years", desc := "(LSnowRecorder;III[J)I" } : Jvm.MethodName) method_23_code (6 : Nat) (Option.some Jvm.ClassFile.FieldType.int) [((0 : Nat), (12 : Nat), (15 : Nat), (18 : Nat)), ((0 : Nat), (12 : Nat), (19 : Nat), (13 : Nat))]) ∈ AW := AW_m6 227 (by decide +kernel) (by decide +kernel)
theorem q_1428 : (Jvm.Cond.methodLink "SnowRecorderLaw" (76 : Nat) ({ cls := "SnowRecorder", name := "years", desc := "(III)I" } : Jvm.MethodName)) ∈ AW := AW_m6 228 (by decide +kernel) (by decide +kernel)
theorem q_1429 : (Jvm.Cond.instanceMethod ({ cls := "SnowRecorder", name := "years", desc := "(III)I" } : Jvm.MethodName)) ∈ AW := AW_m6 229 (by decide +kernel) (by decide +kernel)
theorem q_1430 : (Jvm.Cond.selects "SnowRecorder" ({ cls := "SnowRecorder", name := "years", desc := "(III)I" } : Jvm.MethodName) ({ cls := "SnowRecorder", name := "years", desc := "(III)I" } : Jvm.MethodName)) ∈ AW := AW_m6 230 (by decide +kernel) (by decide +kernel)
theorem q_1431 : (Jvm.Cond.code ({ cls := "SnowRecorder", name := "years", desc := "(III)I" } : Jvm.MethodName) prog_1_method_32_code (6 : Nat) (Option.some Jvm.ClassFile.FieldType.int)) ∈ AW := AW_m6 231 (by decide +kernel) (by decide +kernel)
theorem q_651 : (Jvm.Cond.static ({ cls := "SnowRecorderLaw", name := "snow", desc := "(LSnowRecorder;I[J)I" } : Jvm.MethodName)) ∈ AW := AW_m3 171 (by decide +kernel) (by decide +kernel)
theorem q_652 : (Jvm.Cond.codeWith ({ cls := "SnowRecorderLaw", name := "snow", desc := "(LSnowRecorder;I[J)I" } : Jvm.MethodName) method_3_code (4 : Nat) (Option.some Jvm.ClassFile.FieldType.int) [((0 : Nat), (9 : Nat), (12 : Nat), (13 : Nat))]) ∈ AW := AW_m3 172 (by decide +kernel) (by decide +kernel)
theorem q_653 : (Jvm.Cond.classLink "SnowRecorderLaw" (13 : Nat) "java/lang/IllegalArgumentException") ∈ AW := AW_m3 173 (by decide +kernel) (by decide +kernel)
theorem q_654 : (Jvm.Cond.methodLink "SnowRecorderLaw" (7 : Nat) ({ cls := "SnowRecorder", name := "snow", desc := "(I)I" } : Jvm.MethodName)) ∈ AW := AW_m3 174 (by decide +kernel) (by decide +kernel)
theorem q_655 : (Jvm.Cond.instanceMethod ({ cls := "SnowRecorder", name := "snow", desc := "(I)I" } : Jvm.MethodName)) ∈ AW := AW_m3 175 (by decide +kernel) (by decide +kernel)
theorem q_656 : (Jvm.Cond.selects "SnowRecorder" ({ cls := "SnowRecorder", name := "snow", desc := "(I)I" } : Jvm.MethodName) ({ cls := "SnowRecorder", name := "snow", desc := "(I)I" } : Jvm.MethodName)) ∈ AW := AW_m3 176 (by decide +kernel) (by decide +kernel)
theorem q_657 : (Jvm.Cond.code ({ cls := "SnowRecorder", name := "snow", desc := "(I)I" } : Jvm.MethodName) prog_1_method_3_code (3 : Nat) (Option.some Jvm.ClassFile.FieldType.int)) ∈ AW := AW_m3 177 (by decide +kernel) (by decide +kernel)
theorem q_871 : (Jvm.Cond.static ({ cls := "SnowRecorderLaw", name := "count", desc := "(LSnowRecorder;I[J)I" } : Jvm.MethodName)) ∈ AW := AW_m4 151 (by decide +kernel) (by decide +kernel)
theorem q_872 : (Jvm.Cond.codeWith ({ cls := "SnowRecorderLaw", name := "count", desc := "(LSnowRecorder;I[J)I" } : Jvm.MethodName) method_4_code (4 : Nat) (Option.some Jvm.ClassFile.FieldType.int) [((0 : Nat), (9 : Nat), (12 : Nat), (18 : Nat))]) ∈ AW := AW_m4 152 (by decide +kernel) (by decide +kernel)
theorem q_873 : (Jvm.Cond.classLink "SnowRecorderLaw" (18 : Nat) "java/util/NoSuchElementException") ∈ AW := AW_m4 153 (by decide +kernel) (by decide +kernel)
theorem q_874 : (Jvm.Cond.methodLink "SnowRecorderLaw" (15 : Nat) ({ cls := "SnowRecorder", name := "count", desc := "(I)I" } : Jvm.MethodName)) ∈ AW := AW_m4 154 (by decide +kernel) (by decide +kernel)
theorem q_875 : (Jvm.Cond.instanceMethod ({ cls := "SnowRecorder", name := "count", desc := "(I)I" } : Jvm.MethodName)) ∈ AW := AW_m4 155 (by decide +kernel) (by decide +kernel)
theorem q_876 : (Jvm.Cond.selects "SnowRecorder" ({ cls := "SnowRecorder", name := "count", desc := "(I)I" } : Jvm.MethodName) ({ cls := "SnowRecorder", name := "count", desc := "(I)I" } : Jvm.MethodName)) ∈ AW := AW_m4 156 (by decide +kernel) (by decide +kernel)
theorem q_877 : (Jvm.Cond.code ({ cls := "SnowRecorder", name := "count", desc := "(I)I" } : Jvm.MethodName) prog_1_method_5_code (3 : Nat) (Option.some Jvm.ClassFile.FieldType.int)) ∈ AW := AW_m4 157 (by decide +kernel) (by decide +kernel)
theorem q_921 : (Jvm.Cond.static ({ cls := "SnowRecorderLaw", name := "forecast", desc := "(LSnowRecorder;II[J)I" } : Jvm.MethodName)) ∈ AW := AW_m4 201 (by decide +kernel) (by decide +kernel)
theorem q_922 : (Jvm.Cond.codeWith ({ cls := "SnowRecorderLaw", name := "forecast", desc := "(LSnowRecorder;II[J)I" } : Jvm.MethodName) method_5_code (5 : Nat) (Option.some Jvm.ClassFile.FieldType.int) [((0 : Nat), (10 : Nat), (13 : Nat), (18 : Nat))]) ∈ AW := AW_m4 202 (by decide +kernel) (by decide +kernel)
theorem q_923 : (Jvm.Cond.methodLink "SnowRecorderLaw" (20 : Nat) ({ cls := "SnowRecorder", name := "forecast", desc := "(II)I" } : Jvm.MethodName)) ∈ AW := AW_m4 203 (by decide +kernel) (by decide +kernel)
theorem q_924 : (Jvm.Cond.instanceMethod ({ cls := "SnowRecorder", name := "forecast", desc := "(II)I" } : Jvm.MethodName)) ∈ AW := AW_m4 204 (by decide +kernel) (by decide +kernel)
theorem q_925 : (Jvm.Cond.selects "SnowRecorder" ({ cls := "SnowRecorder", name := "forecast", desc := "(II)I" } : Jvm.MethodName) ({ cls := "SnowRecorder", name := "forecast", desc := "(II)I" } : Jvm.MethodName)) ∈ AW := AW_m4 205 (by decide +kernel) (by decide +kernel)
theorem q_926 : (Jvm.Cond.code ({ cls := "SnowRecorder", name := "forecast", desc := "(II)I" } : Jvm.MethodName) prog_1_method_6_code (3 : Nat) (Option.some Jvm.ClassFile.FieldType.int)) ∈ AW := AW_m4 206 (by decide +kernel) (by decide +kernel)
theorem q_930 : (Jvm.Cond.static ({ cls := "SnowRecorderLaw", name := "slope", desc := "(LSnowRecorder;II[J)I" } : Jvm.MethodName)) ∈ AW := AW_m4 210 (by decide +kernel) (by decide +kernel)
theorem q_931 : (Jvm.Cond.codeWith ({ cls := "SnowRecorderLaw", name := "slope", desc := "(LSnowRecorder;II[J)I" } : Jvm.MethodName) method_6_code (5 : Nat) (Option.some Jvm.ClassFile.FieldType.int) [((0 : Nat), (10 : Nat), (13 : Nat), (18 : Nat))]) ∈ AW := AW_m4 211 (by decide +kernel) (by decide +kernel)
theorem q_932 : (Jvm.Cond.methodLink "SnowRecorderLaw" (24 : Nat) ({ cls := "SnowRecorder", name := "slope", desc := "(II)I" } : Jvm.MethodName)) ∈ AW := AW_m4 212 (by decide +kernel) (by decide +kernel)
theorem q_933 : (Jvm.Cond.instanceMethod ({ cls := "SnowRecorder", name := "slope", desc := "(II)I" } : Jvm.MethodName)) ∈ AW := AW_m4 213 (by decide +kernel) (by decide +kernel)
theorem q_934 : (Jvm.Cond.selects "SnowRecorder" ({ cls := "SnowRecorder", name := "slope", desc := "(II)I" } : Jvm.MethodName) ({ cls := "SnowRecorder", name := "slope", desc := "(II)I" } : Jvm.MethodName)) ∈ AW := AW_m4 214 (by decide +kernel) (by decide +kernel)
theorem q_935 : (Jvm.Cond.code ({ cls := "SnowRecorder", name := "slope", desc := "(II)I" } : Jvm.MethodName) prog_1_method_7_code (5 : Nat) (Option.some Jvm.ClassFile.FieldType.int)) ∈ AW := AW_m4 215 (by decide +kernel) (by decide +kernel)
theorem q_949 : (Jvm.Cond.static ({ cls := "SnowRecorderLaw", name := "layer", desc := "(LSnowRecorder;III[J)I" } : Jvm.MethodName)) ∈ AW := AW_m4 229 (by decide +kernel) (by decide +kernel)
theorem q_950 : (Jvm.Cond.codeWith ({ cls := "SnowRecorderLaw", name := "layer", desc := "(LSnowRecorder;III[J)I" } : Jvm.MethodName) method_7_code (6 : Nat) (Option.some Jvm.ClassFile.FieldType.int) [((0 : Nat), (12 : Nat), (15 : Nat), (18 : Nat))]) ∈ AW := AW_m4 230 (by decide +kernel) (by decide +kernel)
theorem q_951 : (Jvm.Cond.methodLink "SnowRecorderLaw" (27 : Nat) ({ cls := "SnowRecorder", name := "layer", desc := "(III)I" } : Jvm.MethodName)) ∈ AW := AW_m4 231 (by decide +kernel) (by decide +kernel)
theorem q_952 : (Jvm.Cond.instanceMethod ({ cls := "SnowRecorder", name := "layer", desc := "(III)I" } : Jvm.MethodName)) ∈ AW := AW_m4 232 (by decide +kernel) (by decide +kernel)
theorem q_953 : (Jvm.Cond.selects "SnowRecorder" ({ cls := "SnowRecorder", name := "layer", desc := "(III)I" } : Jvm.MethodName) ({ cls := "SnowRecorder", name := "layer", desc := "(III)I" } : Jvm.MethodName)) ∈ AW := AW_m4 233 (by decide +kernel) (by decide +kernel)
theorem q_954 : (Jvm.Cond.code ({ cls := "SnowRecorder", name := "layer", desc := "(III)I" } : Jvm.MethodName) prog_1_method_8_code (6 : Nat) (Option.some Jvm.ClassFile.FieldType.int)) ∈ AW := AW_m4 234 (by decide +kernel) (by decide +kernel)
theorem q_968 : (Jvm.Cond.static ({ cls := "SnowRecorderLaw", name := "told", desc := "(LSnowRecorder;III[J)I" } : Jvm.MethodName)) ∈ AW := AW_m5 8 (by decide +kernel) (by decide +kernel)
theorem q_969 : (Jvm.Cond.codeWith ({ cls := "SnowRecorderLaw", name := "told", desc := "(LSnowRecorder;III[J)I" } : Jvm.MethodName) method_8_code (6 : Nat) (Option.some Jvm.ClassFile.FieldType.int) [((0 : Nat), (12 : Nat), (15 : Nat), (18 : Nat))]) ∈ AW := AW_m5 9 (by decide +kernel) (by decide +kernel)
theorem q_970 : (Jvm.Cond.methodLink "SnowRecorderLaw" (31 : Nat) ({ cls := "SnowRecorder", name := "told", desc := "(III)I" } : Jvm.MethodName)) ∈ AW := AW_m5 10 (by decide +kernel) (by decide +kernel)
theorem q_971 : (Jvm.Cond.instanceMethod ({ cls := "SnowRecorder", name := "told", desc := "(III)I" } : Jvm.MethodName)) ∈ AW := AW_m5 11 (by decide +kernel) (by decide +kernel)
theorem q_972 : (Jvm.Cond.selects "SnowRecorder" ({ cls := "SnowRecorder", name := "told", desc := "(III)I" } : Jvm.MethodName) ({ cls := "SnowRecorder", name := "told", desc := "(III)I" } : Jvm.MethodName)) ∈ AW := AW_m5 12 (by decide +kernel) (by decide +kernel)
theorem q_973 : (Jvm.Cond.code ({ cls := "SnowRecorder", name := "told", desc := "(III)I" } : Jvm.MethodName) prog_1_method_9_code (5 : Nat) (Option.some Jvm.ClassFile.FieldType.int)) ∈ AW := AW_m5 13 (by decide +kernel) (by decide +kernel)
theorem hd_yX9_snow : yX9_snow.cls ≠ "java/lang/invoke/MethodHandle" ∧ yX9_snow.cls ≠ "java/lang/invoke/VarHandle" ∧ (parseMethodDescriptor yX9_snow.desc).map (fun d => d.parameters.length) = some 1 := by decide +kernel
theorem hd_yX9_count : yX9_count.cls ≠ "java/lang/invoke/MethodHandle" ∧ yX9_count.cls ≠ "java/lang/invoke/VarHandle" ∧ (parseMethodDescriptor yX9_count.desc).map (fun d => d.parameters.length) = some 1 := by decide +kernel
theorem hd_yX9_forecast : yX9_forecast.cls ≠ "java/lang/invoke/MethodHandle" ∧ yX9_forecast.cls ≠ "java/lang/invoke/VarHandle" ∧ (parseMethodDescriptor yX9_forecast.desc).map (fun d => d.parameters.length) = some 2 := by decide +kernel
theorem hd_yX9_slope : yX9_slope.cls ≠ "java/lang/invoke/MethodHandle" ∧ yX9_slope.cls ≠ "java/lang/invoke/VarHandle" ∧ (parseMethodDescriptor yX9_slope.desc).map (fun d => d.parameters.length) = some 2 := by decide +kernel
theorem hd_yX9_layer : yX9_layer.cls ≠ "java/lang/invoke/MethodHandle" ∧ yX9_layer.cls ≠ "java/lang/invoke/VarHandle" ∧ (parseMethodDescriptor yX9_layer.desc).map (fun d => d.parameters.length) = some 3 := by decide +kernel
theorem hd_yX9_told : yX9_told.cls ≠ "java/lang/invoke/MethodHandle" ∧ yX9_told.cls ≠ "java/lang/invoke/VarHandle" ∧ (parseMethodDescriptor yX9_told.desc).map (fun d => d.parameters.length) = some 3 := by decide +kernel
theorem hd_yX9_then : yX9_then.cls ≠ "java/lang/invoke/MethodHandle" ∧ yX9_then.cls ≠ "java/lang/invoke/VarHandle" ∧ (parseMethodDescriptor yX9_then.desc).map (fun d => d.parameters.length) = some 3 := by decide +kernel
theorem hd_yX9_once : yX9_once.cls ≠ "java/lang/invoke/MethodHandle" ∧ yX9_once.cls ≠ "java/lang/invoke/VarHandle" ∧ (parseMethodDescriptor yX9_once.desc).map (fun d => d.parameters.length) = some 2 := by decide +kernel
theorem hd_yX9_gone : yX9_gone.cls ≠ "java/lang/invoke/MethodHandle" ∧ yX9_gone.cls ≠ "java/lang/invoke/VarHandle" ∧ (parseMethodDescriptor yX9_gone.desc).map (fun d => d.parameters.length) = some 1 := by decide +kernel
theorem hd_yX9_stands : yX9_stands.cls ≠ "java/lang/invoke/MethodHandle" ∧ yX9_stands.cls ≠ "java/lang/invoke/VarHandle" ∧ (parseMethodDescriptor yX9_stands.desc).map (fun d => d.parameters.length) = some 2 := by decide +kernel
theorem hd_yX9_toLoad : yX9_toLoad.cls ≠ "java/lang/invoke/MethodHandle" ∧ yX9_toLoad.cls ≠ "java/lang/invoke/VarHandle" ∧ (parseMethodDescriptor yX9_toLoad.desc).map (fun d => d.parameters.length) = some 1 := by decide +kernel
theorem hd_yX9_steepest : yX9_steepest.cls ≠ "java/lang/invoke/MethodHandle" ∧ yX9_steepest.cls ≠ "java/lang/invoke/VarHandle" ∧ (parseMethodDescriptor yX9_steepest.desc).map (fun d => d.parameters.length) = some 1 := by decide +kernel
theorem hd_yX9_toWarm : yX9_toWarm.cls ≠ "java/lang/invoke/MethodHandle" ∧ yX9_toWarm.cls ≠ "java/lang/invoke/VarHandle" ∧ (parseMethodDescriptor yX9_toWarm.desc).map (fun d => d.parameters.length) = some 2 := by decide +kernel
theorem hd_yX9_matters : yX9_matters.cls ≠ "java/lang/invoke/MethodHandle" ∧ yX9_matters.cls ≠ "java/lang/invoke/VarHandle" ∧ (parseMethodDescriptor yX9_matters.desc).map (fun d => d.parameters.length) = some 3 := by decide +kernel
theorem hd_yX9_pitOf : yX9_pitOf.cls ≠ "java/lang/invoke/MethodHandle" ∧ yX9_pitOf.cls ≠ "java/lang/invoke/VarHandle" ∧ (parseMethodDescriptor yX9_pitOf.desc).map (fun d => d.parameters.length) = some 2 := by decide +kernel
theorem hd_yX9_compare : yX9_compare.cls ≠ "java/lang/invoke/MethodHandle" ∧ yX9_compare.cls ≠ "java/lang/invoke/VarHandle" ∧ (parseMethodDescriptor yX9_compare.desc).map (fun d => d.parameters.length) = some 3 := by decide +kernel
theorem hd_yX9_nearest : yX9_nearest.cls ≠ "java/lang/invoke/MethodHandle" ∧ yX9_nearest.cls ≠ "java/lang/invoke/VarHandle" ∧ (parseMethodDescriptor yX9_nearest.desc).map (fun d => d.parameters.length) = some 1 := by decide +kernel
theorem hd_yX9_falls : yX9_falls.cls ≠ "java/lang/invoke/MethodHandle" ∧ yX9_falls.cls ≠ "java/lang/invoke/VarHandle" ∧ (parseMethodDescriptor yX9_falls.desc).map (fun d => d.parameters.length) = some 1 := by decide +kernel
theorem hd_yX9_look : yX9_look.cls ≠ "java/lang/invoke/MethodHandle" ∧ yX9_look.cls ≠ "java/lang/invoke/VarHandle" ∧ (parseMethodDescriptor yX9_look.desc).map (fun d => d.parameters.length) = some 1 := by decide +kernel
theorem hd_yX9_odds : yX9_odds.cls ≠ "java/lang/invoke/MethodHandle" ∧ yX9_odds.cls ≠ "java/lang/invoke/VarHandle" ∧ (parseMethodDescriptor yX9_odds.desc).map (fun d => d.parameters.length) = some 3 := by decide +kernel
theorem hd_yX9_years : yX9_years.cls ≠ "java/lang/invoke/MethodHandle" ∧ yX9_years.cls ≠ "java/lang/invoke/VarHandle" ∧ (parseMethodDescriptor yX9_years.desc).map (fun d => d.parameters.length) = some 3 := by decide +kernel
theorem mv_yX9_snow : zWv yX9_snow cX9_snow 3 (some .int) := ⟨q_655, q_656, q_1, q_657⟩
theorem mv_yX9_count : zWv yX9_count cX9_count 3 (some .int) := ⟨q_875, q_876, q_1, q_877⟩
theorem mv_yX9_forecast : zWv yX9_forecast cX9_forecast 3 (some .int) := ⟨q_924, q_925, q_1, q_926⟩
theorem mv_yX9_slope : zWv yX9_slope cX9_slope 5 (some .int) := ⟨q_933, q_934, q_1, q_935⟩
theorem mv_yX9_layer : zWv yX9_layer cX9_layer 6 (some .int) := ⟨q_952, q_953, q_1, q_954⟩
theorem mv_yX9_told : zWv yX9_told cX9_told 5 (some .int) := ⟨q_971, q_972, q_1, q_973⟩
theorem mv_yX9_then : zWv yX9_then cX9_then 6 (some .int) := ⟨q_1217, q_1218, q_1, q_1219⟩
theorem mv_yX9_once : zWv yX9_once cX9_once 5 (some .int) := ⟨q_1237, q_1238, q_1, q_1239⟩
theorem mv_yX9_gone : zWv yX9_gone cX9_gone 3 (some .int) := ⟨q_1244, q_1245, q_1, q_1246⟩
theorem mv_yX9_stands : zWv yX9_stands cX9_stands 6 (some .int) := ⟨q_1260, q_1261, q_1, q_1262⟩
theorem mv_yX9_toLoad : zWv yX9_toLoad cX9_toLoad 4 (some .int) := ⟨q_1271, q_1272, q_1, q_1273⟩
theorem mv_yX9_steepest : zWv yX9_steepest cX9_steepest 4 (some .int) := ⟨q_1278, q_1279, q_1, q_1280⟩
theorem mv_yX9_toWarm : zWv yX9_toWarm cX9_toWarm 4 (some .int) := ⟨q_1285, q_1286, q_1, q_1287⟩
theorem mv_yX9_matters : zWv yX9_matters cX9_matters 9 (some .int) := ⟨q_1301, q_1302, q_1, q_1303⟩
theorem mv_yX9_pitOf : zWv yX9_pitOf cX9_pitOf 3 (some .int) := ⟨q_1313, q_1314, q_1, q_1315⟩
theorem mv_yX9_compare : zWv yX9_compare cX9_compare 6 (some .int) := ⟨q_1326, q_1327, q_1, q_1328⟩
theorem mv_yX9_nearest : zWv yX9_nearest cX9_nearest 6 (some .int) := ⟨q_1353, q_1354, q_1, q_1355⟩
theorem mv_yX9_falls : zWv yX9_falls cX9_falls 3 (some .int) := ⟨q_1360, q_1361, q_1, q_1362⟩
theorem mv_yX9_look : zWv yX9_look cX9_look 5 (some .int) := ⟨q_1405, q_1406, q_1, q_1407⟩
theorem mv_yX9_odds : zWv yX9_odds cX9_odds 7 (some .int) := ⟨q_1412, q_1413, q_1, q_1414⟩
theorem mv_yX9_years : zWv yX9_years cX9_years 6 (some .int) := ⟨q_1429, q_1430, q_1, q_1431⟩
end
section
-- 9nc.dec.lean.txt
-- decode rows of lhelp
theorem dL_snow_0 : decode cL_snow 0 = .ok (.aload_n 2, 1) := by decide +kernel
theorem dL_snow_1 : decode cL_snow 1 = .ok (.iconst 0, 1) := by decide +kernel
theorem dL_snow_2 : decode cL_snow 2 = .ok (.aload_n 0, 1) := by decide +kernel
theorem dL_snow_3 : decode cL_snow 3 = .ok (.iload_n 1, 1) := by decide +kernel
theorem dL_snow_4 : decode cL_snow 4 = .ok (.invokevirtual 7, 3) := by decide +kernel
theorem dL_snow_12 : decode cL_snow 12 = .ok (.astore_n 3, 1) := by decide +kernel
theorem dL_snow_13 : decode cL_snow 13 = .ok (.iconst 1, 1) := by decide +kernel
theorem dL_snow_14 : decode cL_snow 14 = .ok (.ireturn, 1) := by decide +kernel
theorem dL_snow_7 : decode cL_snow 7 = .ok (.i2l, 1) := by decide +kernel
theorem dL_snow_8 : decode cL_snow 8 = .ok (.lastore, 1) := by decide +kernel
theorem dL_snow_9 : decode cL_snow 9 = .ok (.goto 6, 3) := by decide +kernel
theorem dL_snow_15 : decode cL_snow 15 = .ok (.iconst 0, 1) := by decide +kernel
theorem dL_snow_16 : decode cL_snow 16 = .ok (.ireturn, 1) := by decide +kernel
theorem dL_count_0 : decode cL_count 0 = .ok (.aload_n 2, 1) := by decide +kernel
theorem dL_count_1 : decode cL_count 1 = .ok (.iconst 0, 1) := by decide +kernel
theorem dL_count_2 : decode cL_count 2 = .ok (.aload_n 0, 1) := by decide +kernel
theorem dL_count_3 : decode cL_count 3 = .ok (.iload_n 1, 1) := by decide +kernel
theorem dL_count_4 : decode cL_count 4 = .ok (.invokevirtual 15, 3) := by decide +kernel
theorem dL_count_12 : decode cL_count 12 = .ok (.astore_n 3, 1) := by decide +kernel
theorem dL_count_13 : decode cL_count 13 = .ok (.iconst 1, 1) := by decide +kernel
theorem dL_count_14 : decode cL_count 14 = .ok (.ireturn, 1) := by decide +kernel
theorem dL_count_7 : decode cL_count 7 = .ok (.i2l, 1) := by decide +kernel
theorem dL_count_8 : decode cL_count 8 = .ok (.lastore, 1) := by decide +kernel
theorem dL_count_9 : decode cL_count 9 = .ok (.goto 6, 3) := by decide +kernel
theorem dL_count_15 : decode cL_count 15 = .ok (.iconst 0, 1) := by decide +kernel
theorem dL_count_16 : decode cL_count 16 = .ok (.ireturn, 1) := by decide +kernel
theorem dL_forecast_0 : decode cL_forecast 0 = .ok (.aload_n 3, 1) := by decide +kernel
theorem dL_forecast_1 : decode cL_forecast 1 = .ok (.iconst 0, 1) := by decide +kernel
theorem dL_forecast_2 : decode cL_forecast 2 = .ok (.aload_n 0, 1) := by decide +kernel
theorem dL_forecast_3 : decode cL_forecast 3 = .ok (.iload_n 1, 1) := by decide +kernel
theorem dL_forecast_4 : decode cL_forecast 4 = .ok (.iload_n 2, 1) := by decide +kernel
theorem dL_forecast_5 : decode cL_forecast 5 = .ok (.invokevirtual 20, 3) := by decide +kernel
theorem dL_forecast_13 : decode cL_forecast 13 = .ok (.astore 4, 2) := by decide +kernel
theorem dL_forecast_15 : decode cL_forecast 15 = .ok (.iconst 1, 1) := by decide +kernel
theorem dL_forecast_16 : decode cL_forecast 16 = .ok (.ireturn, 1) := by decide +kernel
theorem dL_forecast_8 : decode cL_forecast 8 = .ok (.i2l, 1) := by decide +kernel
theorem dL_forecast_9 : decode cL_forecast 9 = .ok (.lastore, 1) := by decide +kernel
theorem dL_forecast_10 : decode cL_forecast 10 = .ok (.goto 7, 3) := by decide +kernel
theorem dL_forecast_17 : decode cL_forecast 17 = .ok (.iconst 0, 1) := by decide +kernel
theorem dL_forecast_18 : decode cL_forecast 18 = .ok (.ireturn, 1) := by decide +kernel
theorem dL_slope_0 : decode cL_slope 0 = .ok (.aload_n 3, 1) := by decide +kernel
theorem dL_slope_1 : decode cL_slope 1 = .ok (.iconst 0, 1) := by decide +kernel
theorem dL_slope_2 : decode cL_slope 2 = .ok (.aload_n 0, 1) := by decide +kernel
theorem dL_slope_3 : decode cL_slope 3 = .ok (.iload_n 1, 1) := by decide +kernel
theorem dL_slope_4 : decode cL_slope 4 = .ok (.iload_n 2, 1) := by decide +kernel
theorem dL_slope_5 : decode cL_slope 5 = .ok (.invokevirtual 24, 3) := by decide +kernel
theorem dL_slope_13 : decode cL_slope 13 = .ok (.astore 4, 2) := by decide +kernel
theorem dL_slope_15 : decode cL_slope 15 = .ok (.iconst 1, 1) := by decide +kernel
theorem dL_slope_16 : decode cL_slope 16 = .ok (.ireturn, 1) := by decide +kernel
theorem dL_slope_8 : decode cL_slope 8 = .ok (.i2l, 1) := by decide +kernel
theorem dL_slope_9 : decode cL_slope 9 = .ok (.lastore, 1) := by decide +kernel
theorem dL_slope_10 : decode cL_slope 10 = .ok (.goto 7, 3) := by decide +kernel
theorem dL_slope_17 : decode cL_slope 17 = .ok (.iconst 0, 1) := by decide +kernel
theorem dL_slope_18 : decode cL_slope 18 = .ok (.ireturn, 1) := by decide +kernel
theorem dL_layer_0 : decode cL_layer 0 = .ok (.aload 4, 2) := by decide +kernel
theorem dL_layer_2 : decode cL_layer 2 = .ok (.iconst 0, 1) := by decide +kernel
theorem dL_layer_3 : decode cL_layer 3 = .ok (.aload_n 0, 1) := by decide +kernel
theorem dL_layer_4 : decode cL_layer 4 = .ok (.iload_n 1, 1) := by decide +kernel
theorem dL_layer_5 : decode cL_layer 5 = .ok (.iload_n 2, 1) := by decide +kernel
theorem dL_layer_6 : decode cL_layer 6 = .ok (.iload_n 3, 1) := by decide +kernel
theorem dL_layer_7 : decode cL_layer 7 = .ok (.invokevirtual 27, 3) := by decide +kernel
theorem dL_layer_15 : decode cL_layer 15 = .ok (.astore 5, 2) := by decide +kernel
theorem dL_layer_17 : decode cL_layer 17 = .ok (.iconst 1, 1) := by decide +kernel
theorem dL_layer_18 : decode cL_layer 18 = .ok (.ireturn, 1) := by decide +kernel
theorem dL_layer_10 : decode cL_layer 10 = .ok (.i2l, 1) := by decide +kernel
theorem dL_layer_11 : decode cL_layer 11 = .ok (.lastore, 1) := by decide +kernel
theorem dL_layer_12 : decode cL_layer 12 = .ok (.goto 7, 3) := by decide +kernel
theorem dL_layer_19 : decode cL_layer 19 = .ok (.iconst 0, 1) := by decide +kernel
theorem dL_layer_20 : decode cL_layer 20 = .ok (.ireturn, 1) := by decide +kernel
theorem dL_told_0 : decode cL_told 0 = .ok (.aload 4, 2) := by decide +kernel
theorem dL_told_2 : decode cL_told 2 = .ok (.iconst 0, 1) := by decide +kernel
theorem dL_told_3 : decode cL_told 3 = .ok (.aload_n 0, 1) := by decide +kernel
theorem dL_told_4 : decode cL_told 4 = .ok (.iload_n 1, 1) := by decide +kernel
theorem dL_told_5 : decode cL_told 5 = .ok (.iload_n 2, 1) := by decide +kernel
theorem dL_told_6 : decode cL_told 6 = .ok (.iload_n 3, 1) := by decide +kernel
theorem dL_told_7 : decode cL_told 7 = .ok (.invokevirtual 31, 3) := by decide +kernel
theorem dL_told_15 : decode cL_told 15 = .ok (.astore 5, 2) := by decide +kernel
theorem dL_told_17 : decode cL_told 17 = .ok (.iconst 1, 1) := by decide +kernel
theorem dL_told_18 : decode cL_told 18 = .ok (.ireturn, 1) := by decide +kernel
theorem dL_told_10 : decode cL_told 10 = .ok (.i2l, 1) := by decide +kernel
theorem dL_told_11 : decode cL_told 11 = .ok (.lastore, 1) := by decide +kernel
theorem dL_told_12 : decode cL_told 12 = .ok (.goto 7, 3) := by decide +kernel
theorem dL_told_19 : decode cL_told 19 = .ok (.iconst 0, 1) := by decide +kernel
theorem dL_told_20 : decode cL_told 20 = .ok (.ireturn, 1) := by decide +kernel
theorem dL_then_0 : decode cL_then 0 = .ok (.aload 4, 2) := by decide +kernel
theorem dL_then_2 : decode cL_then 2 = .ok (.iconst 0, 1) := by decide +kernel
theorem dL_then_3 : decode cL_then 3 = .ok (.aload_n 0, 1) := by decide +kernel
theorem dL_then_4 : decode cL_then 4 = .ok (.iload_n 1, 1) := by decide +kernel
theorem dL_then_5 : decode cL_then 5 = .ok (.iload_n 2, 1) := by decide +kernel
theorem dL_then_6 : decode cL_then 6 = .ok (.iload_n 3, 1) := by decide +kernel
theorem dL_then_7 : decode cL_then 7 = .ok (.invokevirtual 34, 3) := by decide +kernel
theorem dL_then_15 : decode cL_then 15 = .ok (.astore 5, 2) := by decide +kernel
theorem dL_then_17 : decode cL_then 17 = .ok (.iconst 1, 1) := by decide +kernel
theorem dL_then_18 : decode cL_then 18 = .ok (.ireturn, 1) := by decide +kernel
theorem dL_then_19 : decode cL_then 19 = .ok (.astore 5, 2) := by decide +kernel
theorem dL_then_21 : decode cL_then 21 = .ok (.iconst 2, 1) := by decide +kernel
theorem dL_then_22 : decode cL_then 22 = .ok (.ireturn, 1) := by decide +kernel
theorem dL_then_10 : decode cL_then 10 = .ok (.i2l, 1) := by decide +kernel
theorem dL_then_11 : decode cL_then 11 = .ok (.lastore, 1) := by decide +kernel
theorem dL_then_12 : decode cL_then 12 = .ok (.goto 11, 3) := by decide +kernel
theorem dL_then_23 : decode cL_then 23 = .ok (.iconst 0, 1) := by decide +kernel
theorem dL_then_24 : decode cL_then 24 = .ok (.ireturn, 1) := by decide +kernel
theorem dL_once_0 : decode cL_once 0 = .ok (.aload_n 3, 1) := by decide +kernel
theorem dL_once_1 : decode cL_once 1 = .ok (.iconst 0, 1) := by decide +kernel
theorem dL_once_2 : decode cL_once 2 = .ok (.aload_n 0, 1) := by decide +kernel
theorem dL_once_3 : decode cL_once 3 = .ok (.iload_n 1, 1) := by decide +kernel
theorem dL_once_4 : decode cL_once 4 = .ok (.iload_n 2, 1) := by decide +kernel
theorem dL_once_5 : decode cL_once 5 = .ok (.invokevirtual 37, 3) := by decide +kernel
theorem dL_once_13 : decode cL_once 13 = .ok (.astore 4, 2) := by decide +kernel
theorem dL_once_15 : decode cL_once 15 = .ok (.iconst 1, 1) := by decide +kernel
theorem dL_once_16 : decode cL_once 16 = .ok (.ireturn, 1) := by decide +kernel
theorem dL_once_8 : decode cL_once 8 = .ok (.i2l, 1) := by decide +kernel
theorem dL_once_9 : decode cL_once 9 = .ok (.lastore, 1) := by decide +kernel
theorem dL_once_10 : decode cL_once 10 = .ok (.goto 7, 3) := by decide +kernel
theorem dL_once_17 : decode cL_once 17 = .ok (.iconst 0, 1) := by decide +kernel
theorem dL_once_18 : decode cL_once 18 = .ok (.ireturn, 1) := by decide +kernel
theorem dL_gone_0 : decode cL_gone 0 = .ok (.aload_n 2, 1) := by decide +kernel
theorem dL_gone_1 : decode cL_gone 1 = .ok (.iconst 0, 1) := by decide +kernel
theorem dL_gone_2 : decode cL_gone 2 = .ok (.aload_n 0, 1) := by decide +kernel
theorem dL_gone_3 : decode cL_gone 3 = .ok (.iload_n 1, 1) := by decide +kernel
theorem dL_gone_4 : decode cL_gone 4 = .ok (.invokevirtual 40, 3) := by decide +kernel
theorem dL_gone_12 : decode cL_gone 12 = .ok (.astore_n 3, 1) := by decide +kernel
theorem dL_gone_13 : decode cL_gone 13 = .ok (.iconst 1, 1) := by decide +kernel
theorem dL_gone_14 : decode cL_gone 14 = .ok (.ireturn, 1) := by decide +kernel
theorem dL_gone_7 : decode cL_gone 7 = .ok (.i2l, 1) := by decide +kernel
theorem dL_gone_8 : decode cL_gone 8 = .ok (.lastore, 1) := by decide +kernel
theorem dL_gone_9 : decode cL_gone 9 = .ok (.goto 6, 3) := by decide +kernel
theorem dL_gone_15 : decode cL_gone 15 = .ok (.iconst 0, 1) := by decide +kernel
theorem dL_gone_16 : decode cL_gone 16 = .ok (.ireturn, 1) := by decide +kernel
theorem dL_stands_0 : decode cL_stands 0 = .ok (.aload_n 3, 1) := by decide +kernel
theorem dL_stands_1 : decode cL_stands 1 = .ok (.iconst 0, 1) := by decide +kernel
theorem dL_stands_2 : decode cL_stands 2 = .ok (.aload_n 0, 1) := by decide +kernel
theorem dL_stands_3 : decode cL_stands 3 = .ok (.iload_n 1, 1) := by decide +kernel
theorem dL_stands_4 : decode cL_stands 4 = .ok (.iload_n 2, 1) := by decide +kernel
theorem dL_stands_5 : decode cL_stands 5 = .ok (.invokevirtual 43, 3) := by decide +kernel
theorem dL_stands_13 : decode cL_stands 13 = .ok (.astore 4, 2) := by decide +kernel
theorem dL_stands_15 : decode cL_stands 15 = .ok (.iconst 1, 1) := by decide +kernel
theorem dL_stands_16 : decode cL_stands 16 = .ok (.ireturn, 1) := by decide +kernel
theorem dL_stands_8 : decode cL_stands 8 = .ok (.i2l, 1) := by decide +kernel
theorem dL_stands_9 : decode cL_stands 9 = .ok (.lastore, 1) := by decide +kernel
theorem dL_stands_10 : decode cL_stands 10 = .ok (.goto 7, 3) := by decide +kernel
theorem dL_stands_17 : decode cL_stands 17 = .ok (.iconst 0, 1) := by decide +kernel
theorem dL_stands_18 : decode cL_stands 18 = .ok (.ireturn, 1) := by decide +kernel
theorem dL_toLoad_0 : decode cL_toLoad 0 = .ok (.aload_n 2, 1) := by decide +kernel
theorem dL_toLoad_1 : decode cL_toLoad 1 = .ok (.iconst 0, 1) := by decide +kernel
theorem dL_toLoad_2 : decode cL_toLoad 2 = .ok (.aload_n 0, 1) := by decide +kernel
theorem dL_toLoad_3 : decode cL_toLoad 3 = .ok (.iload_n 1, 1) := by decide +kernel
theorem dL_toLoad_4 : decode cL_toLoad 4 = .ok (.invokevirtual 46, 3) := by decide +kernel
theorem dL_toLoad_12 : decode cL_toLoad 12 = .ok (.astore_n 3, 1) := by decide +kernel
theorem dL_toLoad_13 : decode cL_toLoad 13 = .ok (.iconst 1, 1) := by decide +kernel
theorem dL_toLoad_14 : decode cL_toLoad 14 = .ok (.ireturn, 1) := by decide +kernel
theorem dL_toLoad_7 : decode cL_toLoad 7 = .ok (.i2l, 1) := by decide +kernel
theorem dL_toLoad_8 : decode cL_toLoad 8 = .ok (.lastore, 1) := by decide +kernel
theorem dL_toLoad_9 : decode cL_toLoad 9 = .ok (.goto 6, 3) := by decide +kernel
theorem dL_toLoad_15 : decode cL_toLoad 15 = .ok (.iconst 0, 1) := by decide +kernel
theorem dL_toLoad_16 : decode cL_toLoad 16 = .ok (.ireturn, 1) := by decide +kernel
theorem dL_steepest_0 : decode cL_steepest 0 = .ok (.aload_n 2, 1) := by decide +kernel
theorem dL_steepest_1 : decode cL_steepest 1 = .ok (.iconst 0, 1) := by decide +kernel
theorem dL_steepest_2 : decode cL_steepest 2 = .ok (.aload_n 0, 1) := by decide +kernel
theorem dL_steepest_3 : decode cL_steepest 3 = .ok (.iload_n 1, 1) := by decide +kernel
theorem dL_steepest_4 : decode cL_steepest 4 = .ok (.invokevirtual 49, 3) := by decide +kernel
theorem dL_steepest_12 : decode cL_steepest 12 = .ok (.astore_n 3, 1) := by decide +kernel
theorem dL_steepest_13 : decode cL_steepest 13 = .ok (.iconst 1, 1) := by decide +kernel
theorem dL_steepest_14 : decode cL_steepest 14 = .ok (.ireturn, 1) := by decide +kernel
theorem dL_steepest_7 : decode cL_steepest 7 = .ok (.i2l, 1) := by decide +kernel
theorem dL_steepest_8 : decode cL_steepest 8 = .ok (.lastore, 1) := by decide +kernel
theorem dL_steepest_9 : decode cL_steepest 9 = .ok (.goto 6, 3) := by decide +kernel
theorem dL_steepest_15 : decode cL_steepest 15 = .ok (.iconst 0, 1) := by decide +kernel
theorem dL_steepest_16 : decode cL_steepest 16 = .ok (.ireturn, 1) := by decide +kernel
theorem dL_toWarm_0 : decode cL_toWarm 0 = .ok (.aload_n 3, 1) := by decide +kernel
theorem dL_toWarm_1 : decode cL_toWarm 1 = .ok (.iconst 0, 1) := by decide +kernel
theorem dL_toWarm_2 : decode cL_toWarm 2 = .ok (.aload_n 0, 1) := by decide +kernel
theorem dL_toWarm_3 : decode cL_toWarm 3 = .ok (.iload_n 1, 1) := by decide +kernel
theorem dL_toWarm_4 : decode cL_toWarm 4 = .ok (.iload_n 2, 1) := by decide +kernel
theorem dL_toWarm_5 : decode cL_toWarm 5 = .ok (.invokevirtual 52, 3) := by decide +kernel
theorem dL_toWarm_13 : decode cL_toWarm 13 = .ok (.astore 4, 2) := by decide +kernel
theorem dL_toWarm_15 : decode cL_toWarm 15 = .ok (.iconst 1, 1) := by decide +kernel
theorem dL_toWarm_16 : decode cL_toWarm 16 = .ok (.ireturn, 1) := by decide +kernel
theorem dL_toWarm_17 : decode cL_toWarm 17 = .ok (.astore 4, 2) := by decide +kernel
theorem dL_toWarm_19 : decode cL_toWarm 19 = .ok (.iconst 2, 1) := by decide +kernel
theorem dL_toWarm_20 : decode cL_toWarm 20 = .ok (.ireturn, 1) := by decide +kernel
theorem dL_toWarm_8 : decode cL_toWarm 8 = .ok (.i2l, 1) := by decide +kernel
theorem dL_toWarm_9 : decode cL_toWarm 9 = .ok (.lastore, 1) := by decide +kernel
theorem dL_toWarm_10 : decode cL_toWarm 10 = .ok (.goto 11, 3) := by decide +kernel
theorem dL_toWarm_21 : decode cL_toWarm 21 = .ok (.iconst 0, 1) := by decide +kernel
theorem dL_toWarm_22 : decode cL_toWarm 22 = .ok (.ireturn, 1) := by decide +kernel
theorem dL_matters_0 : decode cL_matters 0 = .ok (.aload 4, 2) := by decide +kernel
theorem dL_matters_2 : decode cL_matters 2 = .ok (.iconst 0, 1) := by decide +kernel
theorem dL_matters_3 : decode cL_matters 3 = .ok (.aload_n 0, 1) := by decide +kernel
theorem dL_matters_4 : decode cL_matters 4 = .ok (.iload_n 1, 1) := by decide +kernel
theorem dL_matters_5 : decode cL_matters 5 = .ok (.iload_n 2, 1) := by decide +kernel
theorem dL_matters_6 : decode cL_matters 6 = .ok (.iload_n 3, 1) := by decide +kernel
theorem dL_matters_7 : decode cL_matters 7 = .ok (.invokevirtual 55, 3) := by decide +kernel
theorem dL_matters_15 : decode cL_matters 15 = .ok (.astore 5, 2) := by decide +kernel
theorem dL_matters_17 : decode cL_matters 17 = .ok (.iconst 1, 1) := by decide +kernel
theorem dL_matters_18 : decode cL_matters 18 = .ok (.ireturn, 1) := by decide +kernel
theorem dL_matters_19 : decode cL_matters 19 = .ok (.astore 5, 2) := by decide +kernel
theorem dL_matters_21 : decode cL_matters 21 = .ok (.iconst 2, 1) := by decide +kernel
theorem dL_matters_22 : decode cL_matters 22 = .ok (.ireturn, 1) := by decide +kernel
theorem dL_matters_10 : decode cL_matters 10 = .ok (.i2l, 1) := by decide +kernel
theorem dL_matters_11 : decode cL_matters 11 = .ok (.lastore, 1) := by decide +kernel
theorem dL_matters_12 : decode cL_matters 12 = .ok (.goto 11, 3) := by decide +kernel
theorem dL_matters_23 : decode cL_matters 23 = .ok (.iconst 0, 1) := by decide +kernel
theorem dL_matters_24 : decode cL_matters 24 = .ok (.ireturn, 1) := by decide +kernel
theorem dL_pitOf_0 : decode cL_pitOf 0 = .ok (.aload_n 3, 1) := by decide +kernel
theorem dL_pitOf_1 : decode cL_pitOf 1 = .ok (.iconst 0, 1) := by decide +kernel
theorem dL_pitOf_2 : decode cL_pitOf 2 = .ok (.aload_n 0, 1) := by decide +kernel
theorem dL_pitOf_3 : decode cL_pitOf 3 = .ok (.iload_n 1, 1) := by decide +kernel
theorem dL_pitOf_4 : decode cL_pitOf 4 = .ok (.iload_n 2, 1) := by decide +kernel
theorem dL_pitOf_5 : decode cL_pitOf 5 = .ok (.invokevirtual 58, 3) := by decide +kernel
theorem dL_pitOf_13 : decode cL_pitOf 13 = .ok (.astore 4, 2) := by decide +kernel
theorem dL_pitOf_15 : decode cL_pitOf 15 = .ok (.iconst 1, 1) := by decide +kernel
theorem dL_pitOf_16 : decode cL_pitOf 16 = .ok (.ireturn, 1) := by decide +kernel
theorem dL_pitOf_8 : decode cL_pitOf 8 = .ok (.i2l, 1) := by decide +kernel
theorem dL_pitOf_9 : decode cL_pitOf 9 = .ok (.lastore, 1) := by decide +kernel
theorem dL_pitOf_10 : decode cL_pitOf 10 = .ok (.goto 7, 3) := by decide +kernel
theorem dL_pitOf_17 : decode cL_pitOf 17 = .ok (.iconst 0, 1) := by decide +kernel
theorem dL_pitOf_18 : decode cL_pitOf 18 = .ok (.ireturn, 1) := by decide +kernel
theorem dL_compare_0 : decode cL_compare 0 = .ok (.aload 4, 2) := by decide +kernel
theorem dL_compare_2 : decode cL_compare 2 = .ok (.iconst 0, 1) := by decide +kernel
theorem dL_compare_3 : decode cL_compare 3 = .ok (.aload_n 0, 1) := by decide +kernel
theorem dL_compare_4 : decode cL_compare 4 = .ok (.iload_n 1, 1) := by decide +kernel
theorem dL_compare_5 : decode cL_compare 5 = .ok (.iload_n 2, 1) := by decide +kernel
theorem dL_compare_6 : decode cL_compare 6 = .ok (.iload_n 3, 1) := by decide +kernel
theorem dL_compare_7 : decode cL_compare 7 = .ok (.invokevirtual 61, 3) := by decide +kernel
theorem dL_compare_15 : decode cL_compare 15 = .ok (.astore 5, 2) := by decide +kernel
theorem dL_compare_17 : decode cL_compare 17 = .ok (.iconst 1, 1) := by decide +kernel
theorem dL_compare_18 : decode cL_compare 18 = .ok (.ireturn, 1) := by decide +kernel
theorem dL_compare_10 : decode cL_compare 10 = .ok (.i2l, 1) := by decide +kernel
theorem dL_compare_11 : decode cL_compare 11 = .ok (.lastore, 1) := by decide +kernel
theorem dL_compare_12 : decode cL_compare 12 = .ok (.goto 7, 3) := by decide +kernel
theorem dL_compare_19 : decode cL_compare 19 = .ok (.iconst 0, 1) := by decide +kernel
theorem dL_compare_20 : decode cL_compare 20 = .ok (.ireturn, 1) := by decide +kernel
theorem dL_nearest_0 : decode cL_nearest 0 = .ok (.aload_n 2, 1) := by decide +kernel
theorem dL_nearest_1 : decode cL_nearest 1 = .ok (.iconst 0, 1) := by decide +kernel
theorem dL_nearest_2 : decode cL_nearest 2 = .ok (.aload_n 0, 1) := by decide +kernel
theorem dL_nearest_3 : decode cL_nearest 3 = .ok (.iload_n 1, 1) := by decide +kernel
theorem dL_nearest_4 : decode cL_nearest 4 = .ok (.invokevirtual 64, 3) := by decide +kernel
theorem dL_nearest_12 : decode cL_nearest 12 = .ok (.astore_n 3, 1) := by decide +kernel
theorem dL_nearest_13 : decode cL_nearest 13 = .ok (.iconst 1, 1) := by decide +kernel
theorem dL_nearest_14 : decode cL_nearest 14 = .ok (.ireturn, 1) := by decide +kernel
theorem dL_nearest_7 : decode cL_nearest 7 = .ok (.i2l, 1) := by decide +kernel
theorem dL_nearest_8 : decode cL_nearest 8 = .ok (.lastore, 1) := by decide +kernel
theorem dL_nearest_9 : decode cL_nearest 9 = .ok (.goto 6, 3) := by decide +kernel
theorem dL_nearest_15 : decode cL_nearest 15 = .ok (.iconst 0, 1) := by decide +kernel
theorem dL_nearest_16 : decode cL_nearest 16 = .ok (.ireturn, 1) := by decide +kernel
theorem dL_falls_0 : decode cL_falls 0 = .ok (.aload_n 2, 1) := by decide +kernel
theorem dL_falls_1 : decode cL_falls 1 = .ok (.iconst 0, 1) := by decide +kernel
theorem dL_falls_2 : decode cL_falls 2 = .ok (.aload_n 0, 1) := by decide +kernel
theorem dL_falls_3 : decode cL_falls 3 = .ok (.iload_n 1, 1) := by decide +kernel
theorem dL_falls_4 : decode cL_falls 4 = .ok (.invokevirtual 67, 3) := by decide +kernel
theorem dL_falls_12 : decode cL_falls 12 = .ok (.astore_n 3, 1) := by decide +kernel
theorem dL_falls_13 : decode cL_falls 13 = .ok (.iconst 1, 1) := by decide +kernel
theorem dL_falls_14 : decode cL_falls 14 = .ok (.ireturn, 1) := by decide +kernel
theorem dL_falls_7 : decode cL_falls 7 = .ok (.i2l, 1) := by decide +kernel
theorem dL_falls_8 : decode cL_falls 8 = .ok (.lastore, 1) := by decide +kernel
theorem dL_falls_9 : decode cL_falls 9 = .ok (.goto 6, 3) := by decide +kernel
theorem dL_falls_15 : decode cL_falls 15 = .ok (.iconst 0, 1) := by decide +kernel
theorem dL_falls_16 : decode cL_falls 16 = .ok (.ireturn, 1) := by decide +kernel
theorem dL_look_0 : decode cL_look 0 = .ok (.aload_n 2, 1) := by decide +kernel
theorem dL_look_1 : decode cL_look 1 = .ok (.iconst 0, 1) := by decide +kernel
theorem dL_look_2 : decode cL_look 2 = .ok (.aload_n 0, 1) := by decide +kernel
theorem dL_look_3 : decode cL_look 3 = .ok (.iload_n 1, 1) := by decide +kernel
theorem dL_look_4 : decode cL_look 4 = .ok (.invokevirtual 70, 3) := by decide +kernel
theorem dL_look_12 : decode cL_look 12 = .ok (.astore_n 3, 1) := by decide +kernel
theorem dL_look_13 : decode cL_look 13 = .ok (.iconst 1, 1) := by decide +kernel
theorem dL_look_14 : decode cL_look 14 = .ok (.ireturn, 1) := by decide +kernel
theorem dL_look_7 : decode cL_look 7 = .ok (.i2l, 1) := by decide +kernel
theorem dL_look_8 : decode cL_look 8 = .ok (.lastore, 1) := by decide +kernel
theorem dL_look_9 : decode cL_look 9 = .ok (.goto 6, 3) := by decide +kernel
theorem dL_look_15 : decode cL_look 15 = .ok (.iconst 0, 1) := by decide +kernel
theorem dL_look_16 : decode cL_look 16 = .ok (.ireturn, 1) := by decide +kernel
theorem dL_odds_0 : decode cL_odds 0 = .ok (.aload 4, 2) := by decide +kernel
theorem dL_odds_2 : decode cL_odds 2 = .ok (.iconst 0, 1) := by decide +kernel
theorem dL_odds_3 : decode cL_odds 3 = .ok (.aload_n 0, 1) := by decide +kernel
theorem dL_odds_4 : decode cL_odds 4 = .ok (.iload_n 1, 1) := by decide +kernel
theorem dL_odds_5 : decode cL_odds 5 = .ok (.iload_n 2, 1) := by decide +kernel
theorem dL_odds_6 : decode cL_odds 6 = .ok (.iload_n 3, 1) := by decide +kernel
theorem dL_odds_7 : decode cL_odds 7 = .ok (.invokevirtual 73, 3) := by decide +kernel
theorem dL_odds_15 : decode cL_odds 15 = .ok (.astore 5, 2) := by decide +kernel
theorem dL_odds_17 : decode cL_odds 17 = .ok (.iconst 1, 1) := by decide +kernel
theorem dL_odds_18 : decode cL_odds 18 = .ok (.ireturn, 1) := by decide +kernel
theorem dL_odds_19 : decode cL_odds 19 = .ok (.astore 5, 2) := by decide +kernel
theorem dL_odds_21 : decode cL_odds 21 = .ok (.iconst 2, 1) := by decide +kernel
theorem dL_odds_22 : decode cL_odds 22 = .ok (.ireturn, 1) := by decide +kernel
theorem dL_odds_10 : decode cL_odds 10 = .ok (.i2l, 1) := by decide +kernel
theorem dL_odds_11 : decode cL_odds 11 = .ok (.lastore, 1) := by decide +kernel
theorem dL_odds_12 : decode cL_odds 12 = .ok (.goto 11, 3) := by decide +kernel
theorem dL_odds_23 : decode cL_odds 23 = .ok (.iconst 0, 1) := by decide +kernel
theorem dL_odds_24 : decode cL_odds 24 = .ok (.ireturn, 1) := by decide +kernel
theorem dL_years_0 : decode cL_years 0 = .ok (.aload 4, 2) := by decide +kernel
theorem dL_years_2 : decode cL_years 2 = .ok (.iconst 0, 1) := by decide +kernel
theorem dL_years_3 : decode cL_years 3 = .ok (.aload_n 0, 1) := by decide +kernel
theorem dL_years_4 : decode cL_years 4 = .ok (.iload_n 1, 1) := by decide +kernel
theorem dL_years_5 : decode cL_years 5 = .ok (.iload_n 2, 1) := by decide +kernel
theorem dL_years_6 : decode cL_years 6 = .ok (.iload_n 3, 1) := by decide +kernel
theorem dL_years_7 : decode cL_years 7 = .ok (.invokevirtual 76, 3) := by decide +kernel
theorem dL_years_15 : decode cL_years 15 = .ok (.astore 5, 2) := by decide +kernel
theorem dL_years_17 : decode cL_years 17 = .ok (.iconst 1, 1) := by decide +kernel
theorem dL_years_18 : decode cL_years 18 = .ok (.ireturn, 1) := by decide +kernel
theorem dL_years_19 : decode cL_years 19 = .ok (.astore 5, 2) := by decide +kernel
theorem dL_years_21 : decode cL_years 21 = .ok (.iconst 2, 1) := by decide +kernel
theorem dL_years_22 : decode cL_years 22 = .ok (.ireturn, 1) := by decide +kernel
theorem dL_years_10 : decode cL_years 10 = .ok (.i2l, 1) := by decide +kernel
theorem dL_years_11 : decode cL_years 11 = .ok (.lastore, 1) := by decide +kernel
theorem dL_years_12 : decode cL_years 12 = .ok (.goto 11, 3) := by decide +kernel
theorem dL_years_23 : decode cL_years 23 = .ok (.iconst 0, 1) := by decide +kernel
theorem dL_years_24 : decode cL_years 24 = .ok (.ireturn, 1) := by decide +kernel
end
section
-- 9nd.lhelp.lean.txt
theorem zE_nc {D : va_G} {A : Nat → Prop} {cs : Nat → ClassId} {tt : Nat} {U : State} (h : zE D A cs tt U) : va_Nc "java/lang/IllegalArgumentException" "java/util/NoSuchElementException" U := h.2.2.2.2.2.2.2.1
theorem okRec.o951 {cs : Nat → ClassId} {ad : Nat → Nat} {g g' : Nat → va_E} {N : Nat} {t fp im nz kz sl ho ua : Int} {st op ai fa mu tb tp : Nat → Int} (h : okRec cs ad g N t fp im nz kz sl ho ua st op ai fa mu tb tp) (hG : ∀ j, (j < 921 ∨ 952 ≤ j) → g' j = g j) : okRec cs ad g' N t fp im nz kz sl ho ua st op ai fa mu tb tp := by
  obtain ⟨a1, a2, a3, a4, a5, a6, a7, a8, ⟨ac, a9⟩, ⟨kc, a10⟩, a11, a12, a13, a14, a15, a16⟩ := h
  have hG2 : ∀ j, j < 919 → g' j = g j := fun j hj => hG j (by omega)
  exact ⟨by rw [hG2 0 (by omega)]; exact a1, a2, a3, by rw [hG2 1 (by omega)]; exact a4, a5.mv (fun j _ _ => rfl) (fun j _ _ => hG2 j (by omega)), a6.mv (fun j _ _ => rfl) (fun j _ _ => hG2 j (by omega)), a7, a8, ⟨ac, a9.mv (fun j _ _ => rfl) (fun j _ _ => hG2 j (by omega))⟩, ⟨kc, a10.mv (fun j _ _ => rfl) (fun j _ _ => hG2 j (by omega))⟩, a11.mv (fun j _ _ => rfl) (fun j _ _ => hG2 j (by omega)), a12.mv2 (fun j _ _ => rfl) (fun j _ _ => hG2 j (by omega)), a13.mv2 (fun j _ _ => rfl) (fun j _ _ => hG2 j (by omega)), a14.mv (fun j _ _ => rfl) (fun j _ _ => hG2 j (by omega)), a15.mv (fun j _ _ => rfl) (fun j _ _ => hG2 j (by omega)), a16.mv (fun j _ _ => rfl) (fun j _ h2 => hG j (by omega))⟩
/-- what a helper of the law leaves elsewhere -/
def zLF (N : Nat) (ad : Nat → Nat) (g : Nat → va_E) (N' : Nat) (ad' : Nat → Nat) (g' : Nat → va_E) : Prop := N ≤ N' ∧ (∀ j, j < N → ad' j = ad j) ∧ ∀ j, 921 ≤ j → j < 951 → g' j = g j
theorem zLF.same {N : Nat} {ad : Nat → Nat} {g : Nat → va_E} : zLF N ad g N ad g := ⟨Nat.le_refl _, fun _ _ => rfl, fun _ _ _ => rfl⟩
theorem zLF.put {cs : Nat → ClassId} {N N' : Nat} {ad ad' : Nat → Nat} {g g' g2 : Nat → va_E} {q : Nat → Int} (h : zLF N ad g N' ad' g') (he : g2 = va_up g' 951 (jA cs 1 q)) : zLF N ad g N' ad' g2 := ⟨h.1, h.2.1, fun j a b => by rw [he, va_up_ne _ _ (by omega)]; exact h.2.2 j a b⟩
def zLQ (N : Nat) (ad : Nat → Nat) (g : Nat → va_E) (N' : Nat) (ad' : Nat → Nat) (g' : Nat → va_E) : Prop := zLF N ad g N' ad' g' ∧ ∀ j, 11 ≤ j → j < 883 → g' j = g j
theorem zLQ.same {N : Nat} {ad : Nat → Nat} {g : Nat → va_E} : zLQ N ad g N ad g := ⟨zLF.same, fun _ _ _ => rfl⟩
theorem zLQ.put {cs : Nat → ClassId} {N N' : Nat} {ad ad' : Nat → Nat} {g g' g2 : Nat → va_E} {q : Nat → Int} (h : zLQ N ad g N' ad' g') (he : g2 = va_up g' 951 (jA cs 1 q)) : zLQ N ad g N' ad' g2 := ⟨h.1.put he, fun j a b => by rw [he, va_up_ne _ _ (by omega)]; exact h.2 j a b⟩
theorem okRec.put {cs : Nat → ClassId} {ad : Nat → Nat} {g g2 : Nat → va_E} {N : Nat} {q : Nat → Int} {t fp im nz kz sl ho ua : Int} {st op ai fa mu tb tp : Nat → Int} (h : okRec cs ad g N t fp im nz kz sl ho ua st op ai fa mu tb tp) (he : g2 = va_up g 951 (jA cs 1 q)) : okRec cs ad g2 N t fp im nz kz sl ho ua st op ai fa mu tb tp := h.o951 (fun j hj => by rw [he, va_up_ne _ _ (by omega)])

set_option maxRecDepth 100000 in
set_option maxHeartbeats 4000000 in
theorem c_L_snow (l : Launch) (D : va_G) (A : Nat → Prop) (cs : Nat → ClassId) (tt : Nat) (N : Nat) (ad : Nat → Nat) (g : Nat → va_E) (hN : 952 ≤ N) {t fp im nz kz sl ho ua : Int} {st op ai fa mu tb tp : Nat → Int} (hR : okRec cs ad g N t fp im nz kz sl ho ua st op ai fa mu tb tp) (na : Nat) (H : Nat → WL9) (W : WL9) (P : Nat → PT9) (nu nv nw rf : Nat → Int) (hS : okState cs ad g 11 (na : Int) nz) (hXK : xKt cs ad g 11 na H W P nz nu nv nw rf) (hTr : ∀ k, k < 900 → -128 ≤ tp k ∧ tp k ≤ 127) (hl0 : l.stackTraces = false) (q : Nat → Int) (hq : g 951 = jA cs 1 q) (z : Int) (hz : -2147483648 ≤ z ∧ z ≤ 2147483647) : zMW l yL_snow cL_snow 4 (some .int) [((0 : Nat), (9 : Nat), (12 : Nat), (13 : Nat))] ({ frames := 13, cells := 6, slots := 60, locals := 780 } : Room) D A cs tt N ad g [.ref (ad 0), .int (zI z), .ref (ad 951)] (rI fun k N' ad' g' => zLF N ad g N' ad' g' ∧ ((k = 1 ∧ ¬ (0 ≤ z ∧ z ≤ t) ∧ okRec cs ad' g' N' t fp im nz kz sl ho ua st op ai fa mu tb tp ∧ (∀ j, 11 ≤ j → j < 883 → g' j = g j) ∧ g' 951 = jA cs 1 q) ∨ (k = 0 ∧ (0 ≤ z ∧ z ≤ t) ∧ (∀ j, 447 ≤ j → j < 883 → g' j = g j) ∧ ∃ r : Int, (0 ≤ r ∧ r ≤ 5) ∧ (∃ (st0 op0 ai0 fa0 mu0 : Nat → Int) (L0 : Nat → Nat → Int) (k9 : Nat) (pl9 : Int) (s9 : Int × Int × Int × (Nat → Int) × (Nat → Int) × (Nat → Int) × (Nat → Int) × (Nat → Int) × (Nat → Int) × (Nat → Int) × (Nat → Int) × (Nat → Nat → Int)), ps_run (unS tp) (z).toNat k9 (0, 0, 0, (fun _ => 0), st0, op0, ai0, fa0, mu0, tabZ, (fun _ => 0), L0) (tk_at (unS tp) (z).toNat 0) = some ((r, pl9), s9) ∧ ((r = 0 ∧ okRec cs ad' g' N' 0 pl9 0 0 kz (s9.1) (s9.2.1) 0 (s9.2.2.2.2.1) (s9.2.2.2.2.2.1) (s9.2.2.2.2.2.2.1) (s9.2.2.2.2.2.2.2.1) (s9.2.2.2.2.2.2.2.2.1) (s9.2.2.2.2.2.2.2.2.2.1) tp ∧ okState cs ad' g' 11 0 0 ∧ xKt cs ad' g' 11 0 H (tW9 (s9.2.2.1) (s9.2.2.2.1) (s9.2.2.2.2.2.2.2.2.2.2.2)) P 0 nu nv nw rf) ∨ (r ≠ 0 ∧ okRec cs ad' g' N' 0 pl9 im nz kz sl ho ua st op ai fa mu tb tp ∧ okState cs ad' g' 11 (na : Int) nz ∧ xKt cs ad' g' 11 na H W P nz nu nv nw (uZ rf 0 (rf 0 + 1))))) ∧ g' 951 = jA cs 1 (uZ q 0 r)))) := by
  have hay1 : zAt ad (0) (ad 0) := rfl
  have hay2 : zAt ad (951) (ad 951) := rfl
  refine z_ofW (by decide) (Nat.le_of_ble_eq_true rfl) ?_
  intro p e s m below meth c C hr hlk hxt
  refine z_lv (lv' := [(0, .ref (ad 0)), (1, .int (zI (z))), (2, .ref (ad 951))]) [0, 1, 2] rfl ?_
  refine z_aload_n C 2 dL_snow_0 rfl ?_
  refine z_iconst (z := 0) C dL_snow_1 rfl ?_
  refine z_aload_n C 0 dL_snow_2 rfl ?_
  refine z_iload_n C 1 dL_snow_3 rfl ?_
  have hna40 : na ≤ 40 := by have h9 := hS.2.1; omega
  refine z_cVX (As := [.int (zI (z))]) (rest := [.int (zI (0)), .ref (ad 951)]) (ci := 11) C (c_qSnow l D A cs tt N ad _ hN _ _ _ _ _ _ _ _ _ _ _ _ _ _ _ hR na H W P nu nv nw rf hS hXK hTr hl0 z hz) (by omega) hay1 hR.1 rfl rfl mv_yX9_snow q_654 hd_yX9_snow (by decide) (Nat.le_of_ble_eq_true rfl) (by decide) dL_snow_4 rfl (?_) (kI0 fun r0 g0 h0 => ?_)
  · intro E9 N9 ad9 g9 hx9
    obtain ⟨⟨rfl, hc9⟩, e2, e3, e4⟩ := hx9
    obtain rfl := e2.symm; obtain rfl := e3.symm; obtain rfl := e4.symm
    refine z_ucatch (name := "java/lang/IllegalArgumentException") C [] ⟨0, 9, 12, 13⟩ [] hxt (fun z hz => absurd hz List.not_mem_nil) (by decide) (by decide) q_653 n_660 (fun q9 => ?_)
    refine z_astore_n (lv' := [(3, .ref q9), (0, .ref (ad 0)), (1, .int (zI (z))), (2, .ref (ad 951))]) C dL_snow_12 rfl (by decide) rfl ?_
    refine z_iconst (z := 1) C dL_snow_13 rfl ?_
    exact z_iret C hr hlk dL_snow_14 (by decide) (by decide) ⟨1, rfl, zLF.same, Or.inl ⟨rfl, hc9, hR, (fun _ _ _ => rfl), hq⟩⟩
  · obtain ⟨⟨hr0, hc0⟩, ⟨st0, op0, ai0, fa0, mu0, L0, k9, pl9, s9, hrun0, hR0⟩, hF0⟩ := h0
    refine z_i2l C dL_snow_7 (by omega) ?_
    have hgy3 := (hF0 (951) (by omega) (by omega)).trans hq
    refine z_last C (by omega) hay2 hgy3 (0) (by omega) (by omega) (by decide) dL_snow_8 (fun gy4 egy5 => ?_)
    have hgy6 := up_s egy5
    refine z_goto (tgt := 15) C dL_snow_9 (by decide) ?_
    refine z_iconst (z := 0) C dL_snow_15 rfl ?_
    have hup : ∀ j, j < 951 → gy4 j = g0 j := fun j j1 => by rw [egy5, va_up_ne _ _ (by omega)]
    exact z_iret C hr hlk dL_snow_16 (by decide) (by decide) ⟨0, rfl, (show zLF N ad g N ad g0 from ⟨Nat.le_refl _, fun _ _ => rfl, fun j a b => hF0 j (by omega) (by omega)⟩).put egy5, Or.inr ⟨rfl, hc0, (fun j a b => (hup j (by omega)).trans (hF0 j (by omega) (by omega))), r0, hr0, ⟨st0, op0, ai0, fa0, mu0, L0, k9, pl9, s9, hrun0, hR0.elim (fun h9 => Or.inl ⟨h9.1, h9.2.1.put egy5, (okState.mv (fun _ _ _ => rfl) (fun j _ _ => hup j (by omega)) h9.2.2.1), xKt.mv (fun j _ _ => hup j (by omega)) (Nat.zero_le _) h9.2.2.2⟩) (fun h9 => Or.inr ⟨h9.1, h9.2.1.put egy5, (okState.mv (fun _ _ _ => rfl) (fun j _ _ => hup j (by omega)) h9.2.2.1), xKt.mv (fun j _ _ => hup j (by omega)) hna40 h9.2.2.2⟩)⟩, up_s egy5⟩⟩

set_option maxRecDepth 100000 in
set_option maxHeartbeats 4000000 in
theorem c_L_count (l : Launch) (D : va_G) (A : Nat → Prop) (cs : Nat → ClassId) (tt : Nat) (N : Nat) (ad : Nat → Nat) (g : Nat → va_E) (hN : 952 ≤ N) {t fp im nz kz sl ho ua : Int} {st op ai fa mu tb tp : Nat → Int} (hR : okRec cs ad g N t fp im nz kz sl ho ua st op ai fa mu tb tp) (hl0 : l.stackTraces = false) (q : Nat → Int) (hq : g 951 = jA cs 1 q) (z : Int) (hz : -2147483648 ≤ z ∧ z ≤ 2147483647) : zMW l yL_count cL_count 4 (some .int) [((0 : Nat), (9 : Nat), (12 : Nat), (18 : Nat))] ({ frames := 13, cells := 6, slots := 36, locals := 780 } : Room) D A cs tt N ad g [.ref (ad 0), .int (zI z), .ref (ad 951)] (rI fun _ N' ad' g' => zLQ N ad g N' ad' g' ∧ okRec cs ad' g' N' t fp im nz kz sl ho ua st op ai fa mu tb tp ∧ ∃ q' : Nat → Int, g' 951 = jA cs 1 q') := by
  have hay1 : zAt ad (0) (ad 0) := rfl
  have hay2 : zAt ad (951) (ad 951) := rfl
  refine z_ofW (by decide) (Nat.le_of_ble_eq_true rfl) ?_
  intro p e s m below meth c C hr hlk hxt
  refine z_lv (lv' := [(0, .ref (ad 0)), (1, .int (zI (z))), (2, .ref (ad 951))]) [0, 1, 2] rfl ?_
  refine z_aload_n C 2 dL_count_0 rfl ?_
  refine z_iconst (z := 0) C dL_count_1 rfl ?_
  refine z_aload_n C 0 dL_count_2 rfl ?_
  refine z_iload_n C 1 dL_count_3 rfl ?_
  refine z_cVX (As := [.int (zI (z))]) (rest := [.int (zI (0)), .ref (ad 951)]) (ci := 11) C (c_X9_count l D A cs tt N ad _ hN _ _ _ _ _ _ _ _ _ _ _ _ _ _ _ hR hl0 z hz) (by omega) hay1 hR.1 rfl rfl mv_yX9_count q_874 hd_yX9_count (by decide) (Nat.le_of_ble_eq_true rfl) (by decide) dL_count_4 rfl (?_) (kI0 fun r0 g0 h0 => ?_)
  · intro E9 N9 ad9 g9 hx9
    obtain ⟨rfl, e2, e3, e4⟩ := hx9
    obtain rfl := e2.symm; obtain rfl := e3.symm; obtain rfl := e4.symm
    refine z_ucatch (name := "java/util/NoSuchElementException") C [] ⟨0, 9, 12, 18⟩ [] hxt (fun z hz => absurd hz List.not_mem_nil) (by decide) (by decide) q_873 n_906 (fun q9 => ?_)
    refine z_astore_n (lv' := [(3, .ref q9), (0, .ref (ad 0)), (1, .int (zI (z))), (2, .ref (ad 951))]) C dL_count_12 rfl (by decide) rfl ?_
    refine z_iconst (z := 1) C dL_count_13 rfl ?_
    exact z_iret C hr hlk dL_count_14 (by decide) (by decide) ⟨1, rfl, zLQ.same, hR, q, hq⟩
  · obtain ⟨hr0, rfl⟩ := h0
    refine z_i2l C dL_count_7 (by omega) ?_
    refine z_last C (by omega) hay2 hq (0) (by omega) (by omega) (by decide) dL_count_8 (fun gy3 egy4 => ?_)
    have hgy5 := up_s egy4
    refine z_goto (tgt := 15) C dL_count_9 (by decide) ?_
    refine z_iconst (z := 0) C dL_count_15 rfl ?_
    exact z_iret C hr hlk dL_count_16 (by decide) (by decide) ⟨0, rfl, zLQ.same.put egy4, hR.put egy4, _, up_s egy4⟩

set_option maxRecDepth 100000 in
set_option maxHeartbeats 4000000 in
theorem c_L_forecast (l : Launch) (D : va_G) (A : Nat → Prop) (cs : Nat → ClassId) (tt : Nat) (N : Nat) (ad : Nat → Nat) (g : Nat → va_E) (hN : 952 ≤ N) {t fp im nz kz sl ho ua : Int} {st op ai fa mu tb tp : Nat → Int} (hR : okRec cs ad g N t fp im nz kz sl ho ua st op ai fa mu tb tp) (hl0 : l.stackTraces = false) (q : Nat → Int) (hq : g 951 = jA cs 1 q) (z : Int) (hz : -2147483648 ≤ z ∧ z ≤ 2147483647) (z1 : Int) (hz1 : -2147483648 ≤ z1 ∧ z1 ≤ 2147483647) : zMW l yL_forecast cL_forecast 5 (some .int) [((0 : Nat), (10 : Nat), (13 : Nat), (18 : Nat))] ({ frames := 13, cells := 6, slots := 36, locals := 780 } : Room) D A cs tt N ad g [.ref (ad 0), .int (zI z), .int (zI z1), .ref (ad 951)] (rI fun k N' ad' g' => zLQ N ad g N' ad' g' ∧ okRec cs ad' g' N' t fp im nz kz sl ho ua st op ai fa mu tb tp ∧ ((k = 1 ∧ ¬ ((0 ≤ z ∧ z < ho) ∧ 0 ≤ z1 ∧ z1 ≤ 2) ∧ g' 951 = jA cs 1 q) ∨ (k = 0 ∧ ∃ r : Int, (-2147483648 ≤ r ∧ r ≤ 2147483647) ∧ ((0 ≤ z ∧ z < ho) ∧ ((z1 = 0 ∧ zI (ai (z).toNat) = zI r) ∨ (z1 = 1 ∧ zI (fa (z).toNat) = zI r) ∨ (z1 = 2 ∧ zI (mu (z).toNat) = zI r))) ∧ g' 951 = jA cs 1 (uZ q 0 r)))) := by
  have hay1 : zAt ad (0) (ad 0) := rfl
  have hay2 : zAt ad (951) (ad 951) := rfl
  refine z_ofW (by decide) (Nat.le_of_ble_eq_true rfl) ?_
  intro p e s m below meth c C hr hlk hxt
  refine z_lv (lv' := [(0, .ref (ad 0)), (1, .int (zI (z))), (2, .int (zI (z1))), (3, .ref (ad 951))]) [0, 1, 2, 3] rfl ?_
  refine z_aload_n C 3 dL_forecast_0 rfl ?_
  refine z_iconst (z := 0) C dL_forecast_1 rfl ?_
  refine z_aload_n C 0 dL_forecast_2 rfl ?_
  refine z_iload_n C 1 dL_forecast_3 rfl ?_
  refine z_iload_n C 2 dL_forecast_4 rfl ?_
  refine z_cVX (As := [.int (zI (z)), .int (zI (z1))]) (rest := [.int (zI (0)), .ref (ad 951)]) (ci := 11) C (c_X9_forecast l D A cs tt N ad _ hN _ _ _ _ _ _ _ _ _ _ _ _ _ _ _ hR hl0 z hz z1 hz1) (by omega) hay1 hR.1 rfl rfl mv_yX9_forecast q_923 hd_yX9_forecast (by decide) (Nat.le_of_ble_eq_true rfl) (by decide) dL_forecast_5 rfl (?_) (kI0 fun r0 g0 h0 => ?_)
  · intro E9 N9 ad9 g9 hx9
    obtain ⟨⟨rfl, hc9⟩, e2, e3, e4⟩ := hx9
    obtain rfl := e2.symm; obtain rfl := e3.symm; obtain rfl := e4.symm
    refine z_ucatch (name := "java/util/NoSuchElementException") C [] ⟨0, 10, 13, 18⟩ [] hxt (fun z hz => absurd hz List.not_mem_nil) (by decide) (by decide) q_873 n_906 (fun q9 => ?_)
    refine z_astore (lv' := [(4, .ref q9), (0, .ref (ad 0)), (1, .int (zI (z))), (2, .int (zI (z1))), (3, .ref (ad 951))]) C dL_forecast_13 (by decide) rfl ?_
    refine z_iconst (z := 1) C dL_forecast_15 rfl ?_
    exact z_iret C hr hlk dL_forecast_16 (by decide) (by decide) ⟨1, rfl, zLQ.same, hR, Or.inl ⟨rfl, hc9, hq⟩⟩
  · obtain ⟨hr0, hc0, rfl⟩ := h0
    refine z_i2l C dL_forecast_8 (by omega) ?_
    refine z_last C (by omega) hay2 hq (0) (by omega) (by omega) (by decide) dL_forecast_9 (fun gy3 egy4 => ?_)
    have hgy5 := up_s egy4
    refine z_goto (tgt := 17) C dL_forecast_10 (by decide) ?_
    refine z_iconst (z := 0) C dL_forecast_17 rfl ?_
    exact z_iret C hr hlk dL_forecast_18 (by decide) (by decide) ⟨0, rfl, zLQ.same.put egy4, hR.put egy4, Or.inr ⟨rfl, r0, hr0, hc0, up_s egy4⟩⟩

set_option maxRecDepth 100000 in
set_option maxHeartbeats 4000000 in
theorem c_L_slope (l : Launch) (D : va_G) (A : Nat → Prop) (cs : Nat → ClassId) (tt : Nat) (N : Nat) (ad : Nat → Nat) (g : Nat → va_E) (hN : 952 ≤ N) {t fp im nz kz sl ho ua : Int} {st op ai fa mu tb tp : Nat → Int} (hR : okRec cs ad g N t fp im nz kz sl ho ua st op ai fa mu tb tp) (hl0 : l.stackTraces = false) (q : Nat → Int) (hq : g 951 = jA cs 1 q) (z : Int) (hz : -2147483648 ≤ z ∧ z ≤ 2147483647) (z1 : Int) (hz1 : -2147483648 ≤ z1 ∧ z1 ≤ 2147483647) : zMW l yL_slope cL_slope 5 (some .int) [((0 : Nat), (10 : Nat), (13 : Nat), (18 : Nat))] ({ frames := 13, cells := 6, slots := 36, locals := 780 } : Room) D A cs tt N ad g [.ref (ad 0), .int (zI z), .int (zI z1), .ref (ad 951)] (rI fun _ N' ad' g' => zLQ N ad g N' ad' g' ∧ okRec cs ad' g' N' t fp im nz kz sl ho ua st op ai fa mu tb tp ∧ ∃ q' : Nat → Int, g' 951 = jA cs 1 q') := by
  have hay1 : zAt ad (0) (ad 0) := rfl
  have hay2 : zAt ad (951) (ad 951) := rfl
  refine z_ofW (by decide) (Nat.le_of_ble_eq_true rfl) ?_
  intro p e s m below meth c C hr hlk hxt
  refine z_lv (lv' := [(0, .ref (ad 0)), (1, .int (zI (z))), (2, .int (zI (z1))), (3, .ref (ad 951))]) [0, 1, 2, 3] rfl ?_
  refine z_aload_n C 3 dL_slope_0 rfl ?_
  refine z_iconst (z := 0) C dL_slope_1 rfl ?_
  refine z_aload_n C 0 dL_slope_2 rfl ?_
  refine z_iload_n C 1 dL_slope_3 rfl ?_
  refine z_iload_n C 2 dL_slope_4 rfl ?_
  refine z_cVX (As := [.int (zI (z)), .int (zI (z1))]) (rest := [.int (zI (0)), .ref (ad 951)]) (ci := 11) C (c_X9_slope l D A cs tt N ad _ hN _ _ _ _ _ _ _ _ _ _ _ _ _ _ _ hR hl0 z hz z1 hz1) (by omega) hay1 hR.1 rfl rfl mv_yX9_slope q_932 hd_yX9_slope (by decide) (Nat.le_of_ble_eq_true rfl) (by decide) dL_slope_5 rfl (?_) (kI0 fun r0 g0 h0 => ?_)
  · intro E9 N9 ad9 g9 hx9
    obtain ⟨rfl, e2, e3, e4⟩ := hx9
    obtain rfl := e2.symm; obtain rfl := e3.symm; obtain rfl := e4.symm
    refine z_ucatch (name := "java/util/NoSuchElementException") C [] ⟨0, 10, 13, 18⟩ [] hxt (fun z hz => absurd hz List.not_mem_nil) (by decide) (by decide) q_873 n_906 (fun q9 => ?_)
    refine z_astore (lv' := [(4, .ref q9), (0, .ref (ad 0)), (1, .int (zI (z))), (2, .int (zI (z1))), (3, .ref (ad 951))]) C dL_slope_13 (by decide) rfl ?_
    refine z_iconst (z := 1) C dL_slope_15 rfl ?_
    exact z_iret C hr hlk dL_slope_16 (by decide) (by decide) ⟨1, rfl, zLQ.same, hR, q, hq⟩
  · obtain ⟨hr0, rfl⟩ := h0
    refine z_i2l C dL_slope_8 (by omega) ?_
    refine z_last C (by omega) hay2 hq (0) (by omega) (by omega) (by decide) dL_slope_9 (fun gy3 egy4 => ?_)
    have hgy5 := up_s egy4
    refine z_goto (tgt := 17) C dL_slope_10 (by decide) ?_
    refine z_iconst (z := 0) C dL_slope_17 rfl ?_
    exact z_iret C hr hlk dL_slope_18 (by decide) (by decide) ⟨0, rfl, zLQ.same.put egy4, hR.put egy4, _, up_s egy4⟩

set_option maxRecDepth 100000 in
set_option maxHeartbeats 4000000 in
theorem c_L_layer (l : Launch) (D : va_G) (A : Nat → Prop) (cs : Nat → ClassId) (tt : Nat) (N : Nat) (ad : Nat → Nat) (g : Nat → va_E) (hN : 952 ≤ N) {t fp im nz kz sl ho ua : Int} {st op ai fa mu tb tp : Nat → Int} (hR : okRec cs ad g N t fp im nz kz sl ho ua st op ai fa mu tb tp) (hl0 : l.stackTraces = false) (q : Nat → Int) (hq : g 951 = jA cs 1 q) (z : Int) (hz : -2147483648 ≤ z ∧ z ≤ 2147483647) (z1 : Int) (hz1 : -2147483648 ≤ z1 ∧ z1 ≤ 2147483647) (z2 : Int) (hz2 : -2147483648 ≤ z2 ∧ z2 ≤ 2147483647) : zMW l yL_layer cL_layer 6 (some .int) [((0 : Nat), (12 : Nat), (15 : Nat), (18 : Nat))] ({ frames := 13, cells := 6, slots := 36, locals := 780 } : Room) D A cs tt N ad g [.ref (ad 0), .int (zI z), .int (zI z1), .int (zI z2), .ref (ad 951)] (rI fun _ N' ad' g' => zLQ N ad g N' ad' g' ∧ okRec cs ad' g' N' t fp im nz kz sl ho ua st op ai fa mu tb tp ∧ ∃ q' : Nat → Int, g' 951 = jA cs 1 q') := by
  have hay1 : zAt ad (0) (ad 0) := rfl
  have hay2 : zAt ad (951) (ad 951) := rfl
  refine z_ofW (by decide) (Nat.le_of_ble_eq_true rfl) ?_
  intro p e s m below meth c C hr hlk hxt
  refine z_lv (lv' := [(0, .ref (ad 0)), (1, .int (zI (z))), (2, .int (zI (z1))), (3, .int (zI (z2))), (4, .ref (ad 951))]) [0, 1, 2, 3, 4] rfl ?_
  refine z_aload C 4 dL_layer_0 rfl ?_
  refine z_iconst (z := 0) C dL_layer_2 rfl ?_
  refine z_aload_n C 0 dL_layer_3 rfl ?_
  refine z_iload_n C 1 dL_layer_4 rfl ?_
  refine z_iload_n C 2 dL_layer_5 rfl ?_
  refine z_iload_n C 3 dL_layer_6 rfl ?_
  refine z_cVX (As := [.int (zI (z)), .int (zI (z1)), .int (zI (z2))]) (rest := [.int (zI (0)), .ref (ad 951)]) (ci := 11) C (c_X9_layer l D A cs tt N ad _ hN _ _ _ _ _ _ _ _ _ _ _ _ _ _ _ hR hl0 z hz z1 hz1 z2 hz2) (by omega) hay1 hR.1 rfl rfl mv_yX9_layer q_951 hd_yX9_layer (by decide) (Nat.le_of_ble_eq_true rfl) (by decide) dL_layer_7 rfl (?_) (kI0 fun r0 g0 h0 => ?_)
  · intro E9 N9 ad9 g9 hx9
    obtain ⟨rfl, e2, e3, e4⟩ := hx9
    obtain rfl := e2.symm; obtain rfl := e3.symm; obtain rfl := e4.symm
    refine z_ucatch (name := "java/util/NoSuchElementException") C [] ⟨0, 12, 15, 18⟩ [] hxt (fun z hz => absurd hz List.not_mem_nil) (by decide) (by decide) q_873 n_906 (fun q9 => ?_)
    refine z_astore (lv' := [(5, .ref q9), (0, .ref (ad 0)), (1, .int (zI (z))), (2, .int (zI (z1))), (3, .int (zI (z2))), (4, .ref (ad 951))]) C dL_layer_15 (by decide) rfl ?_
    refine z_iconst (z := 1) C dL_layer_17 rfl ?_
    exact z_iret C hr hlk dL_layer_18 (by decide) (by decide) ⟨1, rfl, zLQ.same, hR, q, hq⟩
  · obtain ⟨hr0, rfl⟩ := h0
    refine z_i2l C dL_layer_10 (by omega) ?_
    refine z_last C (by omega) hay2 hq (0) (by omega) (by omega) (by decide) dL_layer_11 (fun gy3 egy4 => ?_)
    have hgy5 := up_s egy4
    refine z_goto (tgt := 19) C dL_layer_12 (by decide) ?_
    refine z_iconst (z := 0) C dL_layer_19 rfl ?_
    exact z_iret C hr hlk dL_layer_20 (by decide) (by decide) ⟨0, rfl, zLQ.same.put egy4, hR.put egy4, _, up_s egy4⟩

set_option maxRecDepth 100000 in
set_option maxHeartbeats 4000000 in
theorem c_L_told (l : Launch) (D : va_G) (A : Nat → Prop) (cs : Nat → ClassId) (tt : Nat) (N : Nat) (ad : Nat → Nat) (g : Nat → va_E) (hN : 952 ≤ N) {t fp im nz kz sl ho ua : Int} {st op ai fa mu tb tp : Nat → Int} (hR : okRec cs ad g N t fp im nz kz sl ho ua st op ai fa mu tb tp) (hl0 : l.stackTraces = false) (q : Nat → Int) (hq : g 951 = jA cs 1 q) (z : Int) (hz : -2147483648 ≤ z ∧ z ≤ 2147483647) (z1 : Int) (hz1 : -2147483648 ≤ z1 ∧ z1 ≤ 2147483647) (z2 : Int) (hz2 : -2147483648 ≤ z2 ∧ z2 ≤ 2147483647) : zMW l yL_told cL_told 6 (some .int) [((0 : Nat), (12 : Nat), (15 : Nat), (18 : Nat))] ({ frames := 10, cells := 16, slots := 2150, locals := 600 } : Room) D A cs tt N ad g [.ref (ad 0), .int (zI z), .int (zI z1), .int (zI z2), .ref (ad 951)] (rI fun _ N' ad' g' => zLQ N ad g N' ad' g' ∧ okRec cs ad' g' N' t fp im nz kz sl ho ua st op ai fa mu tb tp ∧ ∃ q' : Nat → Int, g' 951 = jA cs 1 q') := by
  have hay1 : zAt ad (0) (ad 0) := rfl
  have hay2 : zAt ad (951) (ad 951) := rfl
  refine z_ofW (by decide) (Nat.le_of_ble_eq_true rfl) ?_
  intro p e s m below meth c C hr hlk hxt
  refine z_lv (lv' := [(0, .ref (ad 0)), (1, .int (zI (z))), (2, .int (zI (z1))), (3, .int (zI (z2))), (4, .ref (ad 951))]) [0, 1, 2, 3, 4] rfl ?_
  refine z_aload C 4 dL_told_0 rfl ?_
  refine z_iconst (z := 0) C dL_told_2 rfl ?_
  refine z_aload_n C 0 dL_told_3 rfl ?_
  refine z_iload_n C 1 dL_told_4 rfl ?_
  refine z_iload_n C 2 dL_told_5 rfl ?_
  refine z_iload_n C 3 dL_told_6 rfl ?_
  refine z_cVX (As := [.int (zI (z)), .int (zI (z1)), .int (zI (z2))]) (rest := [.int (zI (0)), .ref (ad 951)]) (ci := 11) C (c_X9_told l D A cs tt N ad _ hN _ _ _ _ _ _ _ _ _ _ _ _ _ _ _ hR hl0 z hz z1 hz1 z2 hz2) (by omega) hay1 hR.1 rfl rfl mv_yX9_told q_970 hd_yX9_told (by decide) (Nat.le_of_ble_eq_true rfl) (by decide) dL_told_7 rfl (?_) (kI fun r0 N0 ad0 g0 h0 => ?_)
  · intro E9 N9 ad9 g9 hx9
    obtain ⟨rfl, hR9, hG9⟩ := hx9
    refine z_ucatch (name := "java/util/NoSuchElementException") C [] ⟨0, 12, 15, 18⟩ [] hxt (fun z hz => absurd hz List.not_mem_nil) (by decide) (by decide) q_873 n_906 (fun q9 => ?_)
    refine z_astore (lv' := [(5, .ref q9), (0, .ref (ad 0)), (1, .int (zI (z))), (2, .int (zI (z1))), (3, .int (zI (z2))), (4, .ref (ad 951))]) C dL_told_15 (by decide) rfl ?_
    refine z_iconst (z := 1) C dL_told_17 rfl ?_
    exact z_iret C hr hlk dL_told_18 (by decide) (by decide) ⟨1, rfl, ⟨⟨hG9.1, hG9.2.1, fun j a b => hG9.2.2 j (by omega) (by omega) (by omega)⟩, fun j a b => hG9.2.2 j (by omega) (by omega) (by omega)⟩, hR9, q, (hG9.2.2 951 (by omega) (by omega) (by omega)).trans hq⟩
  · obtain ⟨hR0, hG0⟩ := h0
    obtain ⟨hN0, hA0, hF0⟩ := id hG0
    obtain ⟨xy3, exy4, hxy5⟩ := zI_of (zI (r0))
    rw [exy4]
    refine z_i2l C dL_told_10 (by omega) ?_
    have hay6 : zAt ad0 (951) (ad 951) := (hA0 (951) (by omega)).trans hay2
    have hgy7 := (hF0 (951) (by omega) (by omega) (by omega)).trans hq
    refine z_last C (by omega) hay6 hgy7 (0) (by omega) (by omega) (by decide) dL_told_11 (fun gy8 egy9 => ?_)
    have hgy10 := up_s egy9
    refine z_goto (tgt := 19) C dL_told_12 (by decide) ?_
    refine z_iconst (z := 0) C dL_told_19 rfl ?_
    exact z_iret C hr hlk dL_told_20 (by decide) (by decide) ⟨0, rfl, (show zLQ N ad g N0 ad0 g0 from ⟨⟨hN0, hA0, fun j a b => hF0 j (by omega) (by omega) (by omega)⟩, fun j a b => hF0 j (by omega) (by omega) (by omega)⟩).put egy9, hR0.put egy9, _, up_s egy9⟩

set_option maxRecDepth 100000 in
set_option maxHeartbeats 4000000 in
theorem c_L_then (l : Launch) (D : va_G) (A : Nat → Prop) (cs : Nat → ClassId) (tt : Nat) (N : Nat) (ad : Nat → Nat) (g : Nat → va_E) (hN : 952 ≤ N) {t fp im nz kz sl ho ua : Int} {st op ai fa mu tb tp : Nat → Int} (hR : okRec cs ad g N t fp im nz kz sl ho ua st op ai fa mu tb tp) (hl0 : l.stackTraces = false) (q : Nat → Int) (hq : g 951 = jA cs 1 q) (z : Int) (hz : -2147483648 ≤ z ∧ z ≤ 2147483647) (z1 : Int) (hz1 : -2147483648 ≤ z1 ∧ z1 ≤ 2147483647) (z2 : Int) (hz2 : -2147483648 ≤ z2 ∧ z2 ≤ 2147483647) : zMW l yL_then cL_then 6 (some .int) [((0 : Nat), (12 : Nat), (15 : Nat), (18 : Nat)), ((0 : Nat), (12 : Nat), (19 : Nat), (13 : Nat))] ({ frames := 13, cells := 6, slots := 60, locals := 780 } : Room) D A cs tt N ad g [.ref (ad 0), .int (zI z), .int (zI z1), .int (zI z2), .ref (ad 951)] (rI fun _ N' ad' g' => zLQ N ad g N' ad' g' ∧ okRec cs ad' g' N' t fp im nz kz sl ho ua st op ai fa mu tb tp ∧ ∃ q' : Nat → Int, g' 951 = jA cs 1 q') := by
  have hay1 : zAt ad (0) (ad 0) := rfl
  have hay2 : zAt ad (951) (ad 951) := rfl
  refine z_ofW (by decide) (Nat.le_of_ble_eq_true rfl) ?_
  intro p e s m below meth c C hr hlk hxt
  refine z_lv (lv' := [(0, .ref (ad 0)), (1, .int (zI (z))), (2, .int (zI (z1))), (3, .int (zI (z2))), (4, .ref (ad 951))]) [0, 1, 2, 3, 4] rfl ?_
  refine z_aload C 4 dL_then_0 rfl ?_
  refine z_iconst (z := 0) C dL_then_2 rfl ?_
  refine z_aload_n C 0 dL_then_3 rfl ?_
  refine z_iload_n C 1 dL_then_4 rfl ?_
  refine z_iload_n C 2 dL_then_5 rfl ?_
  refine z_iload_n C 3 dL_then_6 rfl ?_
  refine z_cVX (As := [.int (zI (z)), .int (zI (z1)), .int (zI (z2))]) (rest := [.int (zI (0)), .ref (ad 951)]) (ci := 11) C (c_X9_then l D A cs tt N ad _ hN _ _ _ _ _ _ _ _ _ _ _ _ _ _ _ hR hl0 z hz z1 hz1 z2 hz2) (by omega) hay1 hR.1 rfl rfl mv_yX9_then q_1216 hd_yX9_then (by decide) (Nat.le_of_ble_eq_true rfl) (by decide) dL_then_7 rfl (?_) (kI0 fun r0 g0 h0 => ?_)
  · intro E9 N9 ad9 g9 hx9
    obtain ⟨h9, e2, e3, e4⟩ := hx9
    obtain rfl := e2.symm; obtain rfl := e3.symm; obtain rfl := e4.symm
    rcases h9 with rfl | rfl
    · refine z_ucatch (name := "java/util/NoSuchElementException") C [] ⟨0, 12, 15, 18⟩ [⟨0, 12, 19, 13⟩] hxt (fun z hz => absurd hz List.not_mem_nil) (by decide) (by decide) q_873 n_906 (fun q9 => ?_)
      refine z_astore (lv' := [(5, .ref q9), (0, .ref (ad 0)), (1, .int (zI (z))), (2, .int (zI (z1))), (3, .int (zI (z2))), (4, .ref (ad 951))]) C dL_then_15 (by decide) rfl ?_
      refine z_iconst (z := 1) C dL_then_17 rfl ?_
      exact z_iret C hr hlk dL_then_18 (by decide) (by decide) ⟨1, rfl, zLQ.same, hR, q, hq⟩
    · refine z_ucatch (name := "java/lang/IllegalArgumentException") C [⟨0, 12, 15, 18⟩] ⟨0, 12, 19, 13⟩ [] hxt (fun z hz => by obtain rfl := List.mem_singleton.mp hz; exact Or.inr ⟨by decide, _, q_873, zE_nc C.2.2.2.2.2⟩) (by decide) (by decide) q_653 n_660 (fun q9 => ?_)
      refine z_astore (lv' := [(5, .ref q9), (0, .ref (ad 0)), (1, .int (zI (z))), (2, .int (zI (z1))), (3, .int (zI (z2))), (4, .ref (ad 951))]) C dL_then_19 (by decide) rfl ?_
      refine z_iconst (z := 2) C dL_then_21 rfl ?_
      exact z_iret C hr hlk dL_then_22 (by decide) (by decide) ⟨2, rfl, zLQ.same, hR, q, hq⟩
  · obtain ⟨hr0, hR0, hF0⟩ := h0
    refine z_i2l C dL_then_10 (by omega) ?_
    have hgy3 := (hF0 (951) (by omega) (by omega)).trans hq
    refine z_last C (by omega) hay2 hgy3 (0) (by omega) (by omega) (by decide) dL_then_11 (fun gy4 egy5 => ?_)
    have hgy6 := up_s egy5
    refine z_goto (tgt := 23) C dL_then_12 (by decide) ?_
    refine z_iconst (z := 0) C dL_then_23 rfl ?_
    exact z_iret C hr hlk dL_then_24 (by decide) (by decide) ⟨0, rfl, (show zLQ N ad g N ad g0 from ⟨⟨Nat.le_refl _, fun _ _ => rfl, fun j a b => hF0 j (by omega) (by omega)⟩, fun j a b => hF0 j (by omega) (by omega)⟩).put egy5, hR0.put egy5, _, up_s egy5⟩

set_option maxRecDepth 100000 in
set_option maxHeartbeats 4000000 in
theorem c_L_once (l : Launch) (D : va_G) (A : Nat → Prop) (cs : Nat → ClassId) (tt : Nat) (N : Nat) (ad : Nat → Nat) (g : Nat → va_E) (hN : 952 ≤ N) {t fp im nz kz sl ho ua : Int} {st op ai fa mu tb tp : Nat → Int} (hR : okRec cs ad g N t fp im nz kz sl ho ua st op ai fa mu tb tp) (hl0 : l.stackTraces = false) (q : Nat → Int) (hq : g 951 = jA cs 1 q) (z : Int) (hz : -2147483648 ≤ z ∧ z ≤ 2147483647) (z1 : Int) (hz1 : -2147483648 ≤ z1 ∧ z1 ≤ 2147483647) : zMW l yL_once cL_once 5 (some .int) [((0 : Nat), (10 : Nat), (13 : Nat), (18 : Nat))] ({ frames := 13, cells := 6, slots := 60, locals := 780 } : Room) D A cs tt N ad g [.ref (ad 0), .int (zI z), .int (zI z1), .ref (ad 951)] (rI fun _ N' ad' g' => zLQ N ad g N' ad' g' ∧ okRec cs ad' g' N' t fp im nz kz sl ho ua st op ai fa mu tb tp ∧ ∃ q' : Nat → Int, g' 951 = jA cs 1 q') := by
  have hay1 : zAt ad (0) (ad 0) := rfl
  have hay2 : zAt ad (951) (ad 951) := rfl
  refine z_ofW (by decide) (Nat.le_of_ble_eq_true rfl) ?_
  intro p e s m below meth c C hr hlk hxt
  refine z_lv (lv' := [(0, .ref (ad 0)), (1, .int (zI (z))), (2, .int (zI (z1))), (3, .ref (ad 951))]) [0, 1, 2, 3] rfl ?_
  refine z_aload_n C 3 dL_once_0 rfl ?_
  refine z_iconst (z := 0) C dL_once_1 rfl ?_
  refine z_aload_n C 0 dL_once_2 rfl ?_
  refine z_iload_n C 1 dL_once_3 rfl ?_
  refine z_iload_n C 2 dL_once_4 rfl ?_
  refine z_cVX (As := [.int (zI (z)), .int (zI (z1))]) (rest := [.int (zI (0)), .ref (ad 951)]) (ci := 11) C (c_X9_once l D A cs tt N ad _ hN _ _ _ _ _ _ _ _ _ _ _ _ _ _ _ hR hl0 z hz z1 hz1) (by omega) hay1 hR.1 rfl rfl mv_yX9_once q_1236 hd_yX9_once (by decide) (Nat.le_of_ble_eq_true rfl) (by decide) dL_once_5 rfl (?_) (kI0 fun r0 g0 h0 => ?_)
  · intro E9 N9 ad9 g9 hx9
    obtain ⟨rfl, e2, e3, e4⟩ := hx9
    obtain rfl := e2.symm; obtain rfl := e3.symm; obtain rfl := e4.symm
    refine z_ucatch (name := "java/util/NoSuchElementException") C [] ⟨0, 10, 13, 18⟩ [] hxt (fun z hz => absurd hz List.not_mem_nil) (by decide) (by decide) q_873 n_906 (fun q9 => ?_)
    refine z_astore (lv' := [(4, .ref q9), (0, .ref (ad 0)), (1, .int (zI (z))), (2, .int (zI (z1))), (3, .ref (ad 951))]) C dL_once_13 (by decide) rfl ?_
    refine z_iconst (z := 1) C dL_once_15 rfl ?_
    exact z_iret C hr hlk dL_once_16 (by decide) (by decide) ⟨1, rfl, zLQ.same, hR, q, hq⟩
  · obtain ⟨hr0, hR0, hF0⟩ := h0
    refine z_i2l C dL_once_8 (by omega) ?_
    have hgy3 := (hF0 (951) (by omega) (by omega)).trans hq
    refine z_last C (by omega) hay2 hgy3 (0) (by omega) (by omega) (by decide) dL_once_9 (fun gy4 egy5 => ?_)
    have hgy6 := up_s egy5
    refine z_goto (tgt := 17) C dL_once_10 (by decide) ?_
    refine z_iconst (z := 0) C dL_once_17 rfl ?_
    exact z_iret C hr hlk dL_once_18 (by decide) (by decide) ⟨0, rfl, (show zLQ N ad g N ad g0 from ⟨⟨Nat.le_refl _, fun _ _ => rfl, fun j a b => hF0 j (by omega) (by omega)⟩, fun j a b => hF0 j (by omega) (by omega)⟩).put egy5, hR0.put egy5, _, up_s egy5⟩

set_option maxRecDepth 100000 in
set_option maxHeartbeats 4000000 in
theorem c_L_gone (l : Launch) (D : va_G) (A : Nat → Prop) (cs : Nat → ClassId) (tt : Nat) (N : Nat) (ad : Nat → Nat) (g : Nat → va_E) (hN : 952 ≤ N) {t fp im nz kz sl ho ua : Int} {st op ai fa mu tb tp : Nat → Int} (hR : okRec cs ad g N t fp im nz kz sl ho ua st op ai fa mu tb tp) (hl0 : l.stackTraces = false) (q : Nat → Int) (hq : g 951 = jA cs 1 q) (z : Int) (hz : -2147483648 ≤ z ∧ z ≤ 2147483647) : zMW l yL_gone cL_gone 4 (some .int) [((0 : Nat), (9 : Nat), (12 : Nat), (18 : Nat))] ({ frames := 13, cells := 6, slots := 60, locals := 780 } : Room) D A cs tt N ad g [.ref (ad 0), .int (zI z), .ref (ad 951)] (rI fun _ N' ad' g' => zLQ N ad g N' ad' g' ∧ okRec cs ad' g' N' t fp im nz kz sl ho ua st op ai fa mu tb tp ∧ ∃ q' : Nat → Int, g' 951 = jA cs 1 q') := by
  have hay1 : zAt ad (0) (ad 0) := rfl
  have hay2 : zAt ad (951) (ad 951) := rfl
  refine z_ofW (by decide) (Nat.le_of_ble_eq_true rfl) ?_
  intro p e s m below meth c C hr hlk hxt
  refine z_lv (lv' := [(0, .ref (ad 0)), (1, .int (zI (z))), (2, .ref (ad 951))]) [0, 1, 2] rfl ?_
  refine z_aload_n C 2 dL_gone_0 rfl ?_
  refine z_iconst (z := 0) C dL_gone_1 rfl ?_
  refine z_aload_n C 0 dL_gone_2 rfl ?_
  refine z_iload_n C 1 dL_gone_3 rfl ?_
  refine z_cVX (As := [.int (zI (z))]) (rest := [.int (zI (0)), .ref (ad 951)]) (ci := 11) C (c_X9_gone l D A cs tt N ad _ hN _ _ _ _ _ _ _ _ _ _ _ _ _ _ _ hR hl0 z hz) (by omega) hay1 hR.1 rfl rfl mv_yX9_gone q_1243 hd_yX9_gone (by decide) (Nat.le_of_ble_eq_true rfl) (by decide) dL_gone_4 rfl (?_) (kI0 fun r0 g0 h0 => ?_)
  · intro E9 N9 ad9 g9 hx9
    obtain ⟨rfl, e2, e3, e4⟩ := hx9
    obtain rfl := e2.symm; obtain rfl := e3.symm; obtain rfl := e4.symm
    refine z_ucatch (name := "java/util/NoSuchElementException") C [] ⟨0, 9, 12, 18⟩ [] hxt (fun z hz => absurd hz List.not_mem_nil) (by decide) (by decide) q_873 n_906 (fun q9 => ?_)
    refine z_astore_n (lv' := [(3, .ref q9), (0, .ref (ad 0)), (1, .int (zI (z))), (2, .ref (ad 951))]) C dL_gone_12 rfl (by decide) rfl ?_
    refine z_iconst (z := 1) C dL_gone_13 rfl ?_
    exact z_iret C hr hlk dL_gone_14 (by decide) (by decide) ⟨1, rfl, zLQ.same, hR, q, hq⟩
  · obtain ⟨hr0, hR0, hF0⟩ := h0
    refine z_i2l C dL_gone_7 (by omega) ?_
    have hgy3 := (hF0 (951) (by omega) (by omega)).trans hq
    refine z_last C (by omega) hay2 hgy3 (0) (by omega) (by omega) (by decide) dL_gone_8 (fun gy4 egy5 => ?_)
    have hgy6 := up_s egy5
    refine z_goto (tgt := 15) C dL_gone_9 (by decide) ?_
    refine z_iconst (z := 0) C dL_gone_15 rfl ?_
    exact z_iret C hr hlk dL_gone_16 (by decide) (by decide) ⟨0, rfl, (show zLQ N ad g N ad g0 from ⟨⟨Nat.le_refl _, fun _ _ => rfl, fun j a b => hF0 j (by omega) (by omega)⟩, fun j a b => hF0 j (by omega) (by omega)⟩).put egy5, hR0.put egy5, _, up_s egy5⟩

set_option maxRecDepth 100000 in
set_option maxHeartbeats 4000000 in
theorem c_L_stands (l : Launch) (D : va_G) (A : Nat → Prop) (cs : Nat → ClassId) (tt : Nat) (N : Nat) (ad : Nat → Nat) (g : Nat → va_E) (hN : 952 ≤ N) {t fp im nz kz sl ho ua : Int} {st op ai fa mu tb tp : Nat → Int} (hR : okRec cs ad g N t fp im nz kz sl ho ua st op ai fa mu tb tp) (hl0 : l.stackTraces = false) (q : Nat → Int) (hq : g 951 = jA cs 1 q) (z : Int) (hz : -2147483648 ≤ z ∧ z ≤ 2147483647) (z1 : Int) (hz1 : -2147483648 ≤ z1 ∧ z1 ≤ 2147483647) : zMW l yL_stands cL_stands 5 (some .int) [((0 : Nat), (10 : Nat), (13 : Nat), (18 : Nat))] ({ frames := 13, cells := 6, slots := 36, locals := 780 } : Room) D A cs tt N ad g [.ref (ad 0), .int (zI z), .int (zI z1), .ref (ad 951)] (rI fun _ N' ad' g' => zLQ N ad g N' ad' g' ∧ okRec cs ad' g' N' t fp im nz kz sl ho ua st op ai fa mu tb tp ∧ ∃ q' : Nat → Int, g' 951 = jA cs 1 q') := by
  have hay1 : zAt ad (0) (ad 0) := rfl
  have hay2 : zAt ad (951) (ad 951) := rfl
  refine z_ofW (by decide) (Nat.le_of_ble_eq_true rfl) ?_
  intro p e s m below meth c C hr hlk hxt
  refine z_lv (lv' := [(0, .ref (ad 0)), (1, .int (zI (z))), (2, .int (zI (z1))), (3, .ref (ad 951))]) [0, 1, 2, 3] rfl ?_
  refine z_aload_n C 3 dL_stands_0 rfl ?_
  refine z_iconst (z := 0) C dL_stands_1 rfl ?_
  refine z_aload_n C 0 dL_stands_2 rfl ?_
  refine z_iload_n C 1 dL_stands_3 rfl ?_
  refine z_iload_n C 2 dL_stands_4 rfl ?_
  refine z_cVX (As := [.int (zI (z)), .int (zI (z1))]) (rest := [.int (zI (0)), .ref (ad 951)]) (ci := 11) C (c_X9_stands l D A cs tt N ad _ hN _ _ _ _ _ _ _ _ _ _ _ _ _ _ _ hR hl0 z hz z1 hz1) (by omega) hay1 hR.1 rfl rfl mv_yX9_stands q_1259 hd_yX9_stands (by decide) (Nat.le_of_ble_eq_true rfl) (by decide) dL_stands_5 rfl (?_) (kI0 fun r0 g0 h0 => ?_)
  · intro E9 N9 ad9 g9 hx9
    obtain ⟨rfl, e2, e3, e4⟩ := hx9
    obtain rfl := e2.symm; obtain rfl := e3.symm; obtain rfl := e4.symm
    refine z_ucatch (name := "java/util/NoSuchElementException") C [] ⟨0, 10, 13, 18⟩ [] hxt (fun z hz => absurd hz List.not_mem_nil) (by decide) (by decide) q_873 n_906 (fun q9 => ?_)
    refine z_astore (lv' := [(4, .ref q9), (0, .ref (ad 0)), (1, .int (zI (z))), (2, .int (zI (z1))), (3, .ref (ad 951))]) C dL_stands_13 (by decide) rfl ?_
    refine z_iconst (z := 1) C dL_stands_15 rfl ?_
    exact z_iret C hr hlk dL_stands_16 (by decide) (by decide) ⟨1, rfl, zLQ.same, hR, q, hq⟩
  · obtain ⟨hr0, rfl⟩ := h0
    refine z_i2l C dL_stands_8 (by omega) ?_
    refine z_last C (by omega) hay2 hq (0) (by omega) (by omega) (by decide) dL_stands_9 (fun gy3 egy4 => ?_)
    have hgy5 := up_s egy4
    refine z_goto (tgt := 17) C dL_stands_10 (by decide) ?_
    refine z_iconst (z := 0) C dL_stands_17 rfl ?_
    exact z_iret C hr hlk dL_stands_18 (by decide) (by decide) ⟨0, rfl, zLQ.same.put egy4, hR.put egy4, _, up_s egy4⟩

set_option maxRecDepth 100000 in
set_option maxHeartbeats 4000000 in
theorem c_L_toLoad (l : Launch) (D : va_G) (A : Nat → Prop) (cs : Nat → ClassId) (tt : Nat) (N : Nat) (ad : Nat → Nat) (g : Nat → va_E) (hN : 952 ≤ N) {t fp im nz kz sl ho ua : Int} {st op ai fa mu tb tp : Nat → Int} (hR : okRec cs ad g N t fp im nz kz sl ho ua st op ai fa mu tb tp) (hl0 : l.stackTraces = false) (q : Nat → Int) (hq : g 951 = jA cs 1 q) (z : Int) (hz : -2147483648 ≤ z ∧ z ≤ 2147483647) : zMW l yL_toLoad cL_toLoad 4 (some .int) [((0 : Nat), (9 : Nat), (12 : Nat), (18 : Nat))] ({ frames := 13, cells := 6, slots := 36, locals := 780 } : Room) D A cs tt N ad g [.ref (ad 0), .int (zI z), .ref (ad 951)] (rI fun _ N' ad' g' => zLQ N ad g N' ad' g' ∧ okRec cs ad' g' N' t fp im nz kz sl ho ua st op ai fa mu tb tp ∧ ∃ q' : Nat → Int, g' 951 = jA cs 1 q') := by
  have hay1 : zAt ad (0) (ad 0) := rfl
  have hay2 : zAt ad (951) (ad 951) := rfl
  refine z_ofW (by decide) (Nat.le_of_ble_eq_true rfl) ?_
  intro p e s m below meth c C hr hlk hxt
  refine z_lv (lv' := [(0, .ref (ad 0)), (1, .int (zI (z))), (2, .ref (ad 951))]) [0, 1, 2] rfl ?_
  refine z_aload_n C 2 dL_toLoad_0 rfl ?_
  refine z_iconst (z := 0) C dL_toLoad_1 rfl ?_
  refine z_aload_n C 0 dL_toLoad_2 rfl ?_
  refine z_iload_n C 1 dL_toLoad_3 rfl ?_
  refine z_cVX (As := [.int (zI (z))]) (rest := [.int (zI (0)), .ref (ad 951)]) (ci := 11) C (c_X9_toLoad l D A cs tt N ad _ hN _ _ _ _ _ _ _ _ _ _ _ _ _ _ _ hR hl0 z hz) (by omega) hay1 hR.1 rfl rfl mv_yX9_toLoad q_1270 hd_yX9_toLoad (by decide) (Nat.le_of_ble_eq_true rfl) (by decide) dL_toLoad_4 rfl (?_) (kI0 fun r0 g0 h0 => ?_)
  · intro E9 N9 ad9 g9 hx9
    obtain ⟨rfl, e2, e3, e4⟩ := hx9
    obtain rfl := e2.symm; obtain rfl := e3.symm; obtain rfl := e4.symm
    refine z_ucatch (name := "java/util/NoSuchElementException") C [] ⟨0, 9, 12, 18⟩ [] hxt (fun z hz => absurd hz List.not_mem_nil) (by decide) (by decide) q_873 n_906 (fun q9 => ?_)
    refine z_astore_n (lv' := [(3, .ref q9), (0, .ref (ad 0)), (1, .int (zI (z))), (2, .ref (ad 951))]) C dL_toLoad_12 rfl (by decide) rfl ?_
    refine z_iconst (z := 1) C dL_toLoad_13 rfl ?_
    exact z_iret C hr hlk dL_toLoad_14 (by decide) (by decide) ⟨1, rfl, zLQ.same, hR, q, hq⟩
  · obtain ⟨hr0, rfl⟩ := h0
    refine z_i2l C dL_toLoad_7 (by omega) ?_
    refine z_last C (by omega) hay2 hq (0) (by omega) (by omega) (by decide) dL_toLoad_8 (fun gy3 egy4 => ?_)
    have hgy5 := up_s egy4
    refine z_goto (tgt := 15) C dL_toLoad_9 (by decide) ?_
    refine z_iconst (z := 0) C dL_toLoad_15 rfl ?_
    exact z_iret C hr hlk dL_toLoad_16 (by decide) (by decide) ⟨0, rfl, zLQ.same.put egy4, hR.put egy4, _, up_s egy4⟩

set_option maxRecDepth 100000 in
set_option maxHeartbeats 4000000 in
theorem c_L_steepest (l : Launch) (D : va_G) (A : Nat → Prop) (cs : Nat → ClassId) (tt : Nat) (N : Nat) (ad : Nat → Nat) (g : Nat → va_E) (hN : 952 ≤ N) {t fp im nz kz sl ho ua : Int} {st op ai fa mu tb tp : Nat → Int} (hR : okRec cs ad g N t fp im nz kz sl ho ua st op ai fa mu tb tp) (hl0 : l.stackTraces = false) (q : Nat → Int) (hq : g 951 = jA cs 1 q) (z : Int) (hz : -2147483648 ≤ z ∧ z ≤ 2147483647) : zMW l yL_steepest cL_steepest 4 (some .int) [((0 : Nat), (9 : Nat), (12 : Nat), (18 : Nat))] ({ frames := 13, cells := 6, slots := 36, locals := 780 } : Room) D A cs tt N ad g [.ref (ad 0), .int (zI z), .ref (ad 951)] (rI fun _ N' ad' g' => zLQ N ad g N' ad' g' ∧ okRec cs ad' g' N' t fp im nz kz sl ho ua st op ai fa mu tb tp ∧ ∃ q' : Nat → Int, g' 951 = jA cs 1 q') := by
  have hay1 : zAt ad (0) (ad 0) := rfl
  have hay2 : zAt ad (951) (ad 951) := rfl
  refine z_ofW (by decide) (Nat.le_of_ble_eq_true rfl) ?_
  intro p e s m below meth c C hr hlk hxt
  refine z_lv (lv' := [(0, .ref (ad 0)), (1, .int (zI (z))), (2, .ref (ad 951))]) [0, 1, 2] rfl ?_
  refine z_aload_n C 2 dL_steepest_0 rfl ?_
  refine z_iconst (z := 0) C dL_steepest_1 rfl ?_
  refine z_aload_n C 0 dL_steepest_2 rfl ?_
  refine z_iload_n C 1 dL_steepest_3 rfl ?_
  refine z_cVX (As := [.int (zI (z))]) (rest := [.int (zI (0)), .ref (ad 951)]) (ci := 11) C (c_X9_steepest l D A cs tt N ad _ hN _ _ _ _ _ _ _ _ _ _ _ _ _ _ _ hR hl0 z hz) (by omega) hay1 hR.1 rfl rfl mv_yX9_steepest q_1277 hd_yX9_steepest (by decide) (Nat.le_of_ble_eq_true rfl) (by decide) dL_steepest_4 rfl (?_) (kI0 fun r0 g0 h0 => ?_)
  · intro E9 N9 ad9 g9 hx9
    obtain ⟨rfl, e2, e3, e4⟩ := hx9
    obtain rfl := e2.symm; obtain rfl := e3.symm; obtain rfl := e4.symm
    refine z_ucatch (name := "java/util/NoSuchElementException") C [] ⟨0, 9, 12, 18⟩ [] hxt (fun z hz => absurd hz List.not_mem_nil) (by decide) (by decide) q_873 n_906 (fun q9 => ?_)
    refine z_astore_n (lv' := [(3, .ref q9), (0, .ref (ad 0)), (1, .int (zI (z))), (2, .ref (ad 951))]) C dL_steepest_12 rfl (by decide) rfl ?_
    refine z_iconst (z := 1) C dL_steepest_13 rfl ?_
    exact z_iret C hr hlk dL_steepest_14 (by decide) (by decide) ⟨1, rfl, zLQ.same, hR, q, hq⟩
  · obtain ⟨hr0, rfl⟩ := h0
    refine z_i2l C dL_steepest_7 (by omega) ?_
    refine z_last C (by omega) hay2 hq (0) (by omega) (by omega) (by decide) dL_steepest_8 (fun gy3 egy4 => ?_)
    have hgy5 := up_s egy4
    refine z_goto (tgt := 15) C dL_steepest_9 (by decide) ?_
    refine z_iconst (z := 0) C dL_steepest_15 rfl ?_
    exact z_iret C hr hlk dL_steepest_16 (by decide) (by decide) ⟨0, rfl, zLQ.same.put egy4, hR.put egy4, _, up_s egy4⟩

set_option maxRecDepth 100000 in
set_option maxHeartbeats 4000000 in
theorem c_L_toWarm (l : Launch) (D : va_G) (A : Nat → Prop) (cs : Nat → ClassId) (tt : Nat) (N : Nat) (ad : Nat → Nat) (g : Nat → va_E) (hN : 952 ≤ N) {t fp im nz kz sl ho ua : Int} {st op ai fa mu tb tp : Nat → Int} (hR : okRec cs ad g N t fp im nz kz sl ho ua st op ai fa mu tb tp) (hl0 : l.stackTraces = false) (q : Nat → Int) (hq : g 951 = jA cs 1 q) (z : Int) (hz : -2147483648 ≤ z ∧ z ≤ 2147483647) (z1 : Int) (hz1 : -2147483648 ≤ z1 ∧ z1 ≤ 2147483647) : zMW l yL_toWarm cL_toWarm 5 (some .int) [((0 : Nat), (10 : Nat), (13 : Nat), (18 : Nat)), ((0 : Nat), (10 : Nat), (17 : Nat), (13 : Nat))] ({ frames := 13, cells := 6, slots := 60, locals := 780 } : Room) D A cs tt N ad g [.ref (ad 0), .int (zI z), .int (zI z1), .ref (ad 951)] (rI fun _ N' ad' g' => zLQ N ad g N' ad' g' ∧ okRec cs ad' g' N' t fp im nz kz sl ho ua st op ai fa mu tb tp ∧ ∃ q' : Nat → Int, g' 951 = jA cs 1 q') := by
  have hay1 : zAt ad (0) (ad 0) := rfl
  have hay2 : zAt ad (951) (ad 951) := rfl
  refine z_ofW (by decide) (Nat.le_of_ble_eq_true rfl) ?_
  intro p e s m below meth c C hr hlk hxt
  refine z_lv (lv' := [(0, .ref (ad 0)), (1, .int (zI (z))), (2, .int (zI (z1))), (3, .ref (ad 951))]) [0, 1, 2, 3] rfl ?_
  refine z_aload_n C 3 dL_toWarm_0 rfl ?_
  refine z_iconst (z := 0) C dL_toWarm_1 rfl ?_
  refine z_aload_n C 0 dL_toWarm_2 rfl ?_
  refine z_iload_n C 1 dL_toWarm_3 rfl ?_
  refine z_iload_n C 2 dL_toWarm_4 rfl ?_
  refine z_cVX (As := [.int (zI (z)), .int (zI (z1))]) (rest := [.int (zI (0)), .ref (ad 951)]) (ci := 11) C (c_X9_toWarm l D A cs tt N ad _ hN _ _ _ _ _ _ _ _ _ _ _ _ _ _ _ hR hl0 z hz z1 hz1) (by omega) hay1 hR.1 rfl rfl mv_yX9_toWarm q_1284 hd_yX9_toWarm (by decide) (Nat.le_of_ble_eq_true rfl) (by decide) dL_toWarm_5 rfl (?_) (kI0 fun r0 g0 h0 => ?_)
  · intro E9 N9 ad9 g9 hx9
    obtain ⟨h9, e2, e3, e4⟩ := hx9
    obtain rfl := e2.symm; obtain rfl := e3.symm; obtain rfl := e4.symm
    rcases h9 with rfl | rfl
    · refine z_ucatch (name := "java/util/NoSuchElementException") C [] ⟨0, 10, 13, 18⟩ [⟨0, 10, 17, 13⟩] hxt (fun z hz => absurd hz List.not_mem_nil) (by decide) (by decide) q_873 n_906 (fun q9 => ?_)
      refine z_astore (lv' := [(4, .ref q9), (0, .ref (ad 0)), (1, .int (zI (z))), (2, .int (zI (z1))), (3, .ref (ad 951))]) C dL_toWarm_13 (by decide) rfl ?_
      refine z_iconst (z := 1) C dL_toWarm_15 rfl ?_
      exact z_iret C hr hlk dL_toWarm_16 (by decide) (by decide) ⟨1, rfl, zLQ.same, hR, q, hq⟩
    · refine z_ucatch (name := "java/lang/IllegalArgumentException") C [⟨0, 10, 13, 18⟩] ⟨0, 10, 17, 13⟩ [] hxt (fun z hz => by obtain rfl := List.mem_singleton.mp hz; exact Or.inr ⟨by decide, _, q_873, zE_nc C.2.2.2.2.2⟩) (by decide) (by decide) q_653 n_660 (fun q9 => ?_)
      refine z_astore (lv' := [(4, .ref q9), (0, .ref (ad 0)), (1, .int (zI (z))), (2, .int (zI (z1))), (3, .ref (ad 951))]) C dL_toWarm_17 (by decide) rfl ?_
      refine z_iconst (z := 2) C dL_toWarm_19 rfl ?_
      exact z_iret C hr hlk dL_toWarm_20 (by decide) (by decide) ⟨2, rfl, zLQ.same, hR, q, hq⟩
  · obtain ⟨hr0, hR0, hF0⟩ := h0
    refine z_i2l C dL_toWarm_8 (by omega) ?_
    have hgy3 := (hF0 (951) (by omega) (by omega)).trans hq
    refine z_last C (by omega) hay2 hgy3 (0) (by omega) (by omega) (by decide) dL_toWarm_9 (fun gy4 egy5 => ?_)
    have hgy6 := up_s egy5
    refine z_goto (tgt := 21) C dL_toWarm_10 (by decide) ?_
    refine z_iconst (z := 0) C dL_toWarm_21 rfl ?_
    exact z_iret C hr hlk dL_toWarm_22 (by decide) (by decide) ⟨0, rfl, (show zLQ N ad g N ad g0 from ⟨⟨Nat.le_refl _, fun _ _ => rfl, fun j a b => hF0 j (by omega) (by omega)⟩, fun j a b => hF0 j (by omega) (by omega)⟩).put egy5, hR0.put egy5, _, up_s egy5⟩

set_option maxRecDepth 100000 in
set_option maxHeartbeats 4000000 in
theorem c_L_matters (l : Launch) (D : va_G) (A : Nat → Prop) (cs : Nat → ClassId) (tt : Nat) (N : Nat) (ad : Nat → Nat) (g : Nat → va_E) (hN : 952 ≤ N) {t fp im nz kz sl ho ua : Int} {st op ai fa mu tb tp : Nat → Int} (hR : okRec cs ad g N t fp im nz kz sl ho ua st op ai fa mu tb tp) (hl0 : l.stackTraces = false) (q : Nat → Int) (hq : g 951 = jA cs 1 q) (z : Int) (hz : -2147483648 ≤ z ∧ z ≤ 2147483647) (z1 : Int) (hz1 : -2147483648 ≤ z1 ∧ z1 ≤ 2147483647) (z2 : Int) (hz2 : -2147483648 ≤ z2 ∧ z2 ≤ 2147483647) : zMW l yL_matters cL_matters 6 (some .int) [((0 : Nat), (12 : Nat), (15 : Nat), (18 : Nat)), ((0 : Nat), (12 : Nat), (19 : Nat), (13 : Nat))] ({ frames := 13, cells := 6, slots := 60, locals := 780 } : Room) D A cs tt N ad g [.ref (ad 0), .int (zI z), .int (zI z1), .int (zI z2), .ref (ad 951)] (rI fun _ N' ad' g' => zLQ N ad g N' ad' g' ∧ okRec cs ad' g' N' t fp im nz kz sl ho ua st op ai fa mu tb tp ∧ ∃ q' : Nat → Int, g' 951 = jA cs 1 q') := by
  have hay1 : zAt ad (0) (ad 0) := rfl
  have hay2 : zAt ad (951) (ad 951) := rfl
  refine z_ofW (by decide) (Nat.le_of_ble_eq_true rfl) ?_
  intro p e s m below meth c C hr hlk hxt
  refine z_lv (lv' := [(0, .ref (ad 0)), (1, .int (zI (z))), (2, .int (zI (z1))), (3, .int (zI (z2))), (4, .ref (ad 951))]) [0, 1, 2, 3, 4] rfl ?_
  refine z_aload C 4 dL_matters_0 rfl ?_
  refine z_iconst (z := 0) C dL_matters_2 rfl ?_
  refine z_aload_n C 0 dL_matters_3 rfl ?_
  refine z_iload_n C 1 dL_matters_4 rfl ?_
  refine z_iload_n C 2 dL_matters_5 rfl ?_
  refine z_iload_n C 3 dL_matters_6 rfl ?_
  refine z_cVX (As := [.int (zI (z)), .int (zI (z1)), .int (zI (z2))]) (rest := [.int (zI (0)), .ref (ad 951)]) (ci := 11) C (c_X9_matters l D A cs tt N ad _ hN _ _ _ _ _ _ _ _ _ _ _ _ _ _ _ hR hl0 z hz z1 hz1 z2 hz2) (by omega) hay1 hR.1 rfl rfl mv_yX9_matters q_1300 hd_yX9_matters (by decide) (Nat.le_of_ble_eq_true rfl) (by decide) dL_matters_7 rfl (?_) (kI0 fun r0 g0 h0 => ?_)
  · intro E9 N9 ad9 g9 hx9
    obtain ⟨h9, e2, e3, e4⟩ := hx9
    obtain rfl := e2.symm; obtain rfl := e3.symm; obtain rfl := e4.symm
    rcases h9 with rfl | rfl
    · refine z_ucatch (name := "java/util/NoSuchElementException") C [] ⟨0, 12, 15, 18⟩ [⟨0, 12, 19, 13⟩] hxt (fun z hz => absurd hz List.not_mem_nil) (by decide) (by decide) q_873 n_906 (fun q9 => ?_)
      refine z_astore (lv' := [(5, .ref q9), (0, .ref (ad 0)), (1, .int (zI (z))), (2, .int (zI (z1))), (3, .int (zI (z2))), (4, .ref (ad 951))]) C dL_matters_15 (by decide) rfl ?_
      refine z_iconst (z := 1) C dL_matters_17 rfl ?_
      exact z_iret C hr hlk dL_matters_18 (by decide) (by decide) ⟨1, rfl, zLQ.same, hR, q, hq⟩
    · refine z_ucatch (name := "java/lang/IllegalArgumentException") C [⟨0, 12, 15, 18⟩] ⟨0, 12, 19, 13⟩ [] hxt (fun z hz => by obtain rfl := List.mem_singleton.mp hz; exact Or.inr ⟨by decide, _, q_873, zE_nc C.2.2.2.2.2⟩) (by decide) (by decide) q_653 n_660 (fun q9 => ?_)
      refine z_astore (lv' := [(5, .ref q9), (0, .ref (ad 0)), (1, .int (zI (z))), (2, .int (zI (z1))), (3, .int (zI (z2))), (4, .ref (ad 951))]) C dL_matters_19 (by decide) rfl ?_
      refine z_iconst (z := 2) C dL_matters_21 rfl ?_
      exact z_iret C hr hlk dL_matters_22 (by decide) (by decide) ⟨2, rfl, zLQ.same, hR, q, hq⟩
  · obtain ⟨hr0, hR0, hF0⟩ := h0
    refine z_i2l C dL_matters_10 (by omega) ?_
    have hgy3 := (hF0 (951) (by omega) (by omega)).trans hq
    refine z_last C (by omega) hay2 hgy3 (0) (by omega) (by omega) (by decide) dL_matters_11 (fun gy4 egy5 => ?_)
    have hgy6 := up_s egy5
    refine z_goto (tgt := 23) C dL_matters_12 (by decide) ?_
    refine z_iconst (z := 0) C dL_matters_23 rfl ?_
    exact z_iret C hr hlk dL_matters_24 (by decide) (by decide) ⟨0, rfl, (show zLQ N ad g N ad g0 from ⟨⟨Nat.le_refl _, fun _ _ => rfl, fun j a b => hF0 j (by omega) (by omega)⟩, fun j a b => hF0 j (by omega) (by omega)⟩).put egy5, hR0.put egy5, _, up_s egy5⟩

set_option maxRecDepth 100000 in
set_option maxHeartbeats 4000000 in
theorem c_L_pitOf (l : Launch) (D : va_G) (A : Nat → Prop) (cs : Nat → ClassId) (tt : Nat) (N : Nat) (ad : Nat → Nat) (g : Nat → va_E) (hN : 952 ≤ N) {t fp im nz kz sl ho ua : Int} {st op ai fa mu tb tp : Nat → Int} (hR : okRec cs ad g N t fp im nz kz sl ho ua st op ai fa mu tb tp) (hl0 : l.stackTraces = false) (q : Nat → Int) (hq : g 951 = jA cs 1 q) (z : Int) (hz : -2147483648 ≤ z ∧ z ≤ 2147483647) (z1 : Int) (hz1 : -2147483648 ≤ z1 ∧ z1 ≤ 2147483647) : zMW l yL_pitOf cL_pitOf 5 (some .int) [((0 : Nat), (10 : Nat), (13 : Nat), (18 : Nat))] ({ frames := 13, cells := 6, slots := 36, locals := 780 } : Room) D A cs tt N ad g [.ref (ad 0), .int (zI z), .int (zI z1), .ref (ad 951)] (rI fun _ N' ad' g' => zLQ N ad g N' ad' g' ∧ okRec cs ad' g' N' t fp im nz kz sl ho ua st op ai fa mu tb tp ∧ ∃ q' : Nat → Int, g' 951 = jA cs 1 q') := by
  have hay1 : zAt ad (0) (ad 0) := rfl
  have hay2 : zAt ad (951) (ad 951) := rfl
  refine z_ofW (by decide) (Nat.le_of_ble_eq_true rfl) ?_
  intro p e s m below meth c C hr hlk hxt
  refine z_lv (lv' := [(0, .ref (ad 0)), (1, .int (zI (z))), (2, .int (zI (z1))), (3, .ref (ad 951))]) [0, 1, 2, 3] rfl ?_
  refine z_aload_n C 3 dL_pitOf_0 rfl ?_
  refine z_iconst (z := 0) C dL_pitOf_1 rfl ?_
  refine z_aload_n C 0 dL_pitOf_2 rfl ?_
  refine z_iload_n C 1 dL_pitOf_3 rfl ?_
  refine z_iload_n C 2 dL_pitOf_4 rfl ?_
  refine z_cVX (As := [.int (zI (z)), .int (zI (z1))]) (rest := [.int (zI (0)), .ref (ad 951)]) (ci := 11) C (c_X9_pitOf l D A cs tt N ad _ hN _ _ _ _ _ _ _ _ _ _ _ _ _ _ _ hR hl0 z hz z1 hz1) (by omega) hay1 hR.1 rfl rfl mv_yX9_pitOf q_1312 hd_yX9_pitOf (by decide) (Nat.le_of_ble_eq_true rfl) (by decide) dL_pitOf_5 rfl (?_) (kI0 fun r0 g0 h0 => ?_)
  · intro E9 N9 ad9 g9 hx9
    obtain ⟨rfl, e2, e3, e4⟩ := hx9
    obtain rfl := e2.symm; obtain rfl := e3.symm; obtain rfl := e4.symm
    refine z_ucatch (name := "java/util/NoSuchElementException") C [] ⟨0, 10, 13, 18⟩ [] hxt (fun z hz => absurd hz List.not_mem_nil) (by decide) (by decide) q_873 n_906 (fun q9 => ?_)
    refine z_astore (lv' := [(4, .ref q9), (0, .ref (ad 0)), (1, .int (zI (z))), (2, .int (zI (z1))), (3, .ref (ad 951))]) C dL_pitOf_13 (by decide) rfl ?_
    refine z_iconst (z := 1) C dL_pitOf_15 rfl ?_
    exact z_iret C hr hlk dL_pitOf_16 (by decide) (by decide) ⟨1, rfl, zLQ.same, hR, q, hq⟩
  · obtain ⟨hr0, rfl⟩ := h0
    refine z_i2l C dL_pitOf_8 (by omega) ?_
    refine z_last C (by omega) hay2 hq (0) (by omega) (by omega) (by decide) dL_pitOf_9 (fun gy3 egy4 => ?_)
    have hgy5 := up_s egy4
    refine z_goto (tgt := 17) C dL_pitOf_10 (by decide) ?_
    refine z_iconst (z := 0) C dL_pitOf_17 rfl ?_
    exact z_iret C hr hlk dL_pitOf_18 (by decide) (by decide) ⟨0, rfl, zLQ.same.put egy4, hR.put egy4, _, up_s egy4⟩

set_option maxRecDepth 100000 in
set_option maxHeartbeats 4000000 in
theorem c_L_compare (l : Launch) (D : va_G) (A : Nat → Prop) (cs : Nat → ClassId) (tt : Nat) (N : Nat) (ad : Nat → Nat) (g : Nat → va_E) (hN : 952 ≤ N) {t fp im nz kz sl ho ua : Int} {st op ai fa mu tb tp : Nat → Int} (hR : okRec cs ad g N t fp im nz kz sl ho ua st op ai fa mu tb tp) (hl0 : l.stackTraces = false) (q : Nat → Int) (hq : g 951 = jA cs 1 q) (z : Int) (hz : -2147483648 ≤ z ∧ z ≤ 2147483647) (z1 : Int) (hz1 : -2147483648 ≤ z1 ∧ z1 ≤ 2147483647) (z2 : Int) (hz2 : -2147483648 ≤ z2 ∧ z2 ≤ 2147483647) : zMW l yL_compare cL_compare 6 (some .int) [((0 : Nat), (12 : Nat), (15 : Nat), (18 : Nat))] ({ frames := 13, cells := 6, slots := 60, locals := 780 } : Room) D A cs tt N ad g [.ref (ad 0), .int (zI z), .int (zI z1), .int (zI z2), .ref (ad 951)] (rI fun _ N' ad' g' => zLQ N ad g N' ad' g' ∧ okRec cs ad' g' N' t fp im nz kz sl ho ua st op ai fa mu tb tp ∧ ∃ q' : Nat → Int, g' 951 = jA cs 1 q') := by
  have hay1 : zAt ad (0) (ad 0) := rfl
  have hay2 : zAt ad (951) (ad 951) := rfl
  refine z_ofW (by decide) (Nat.le_of_ble_eq_true rfl) ?_
  intro p e s m below meth c C hr hlk hxt
  refine z_lv (lv' := [(0, .ref (ad 0)), (1, .int (zI (z))), (2, .int (zI (z1))), (3, .int (zI (z2))), (4, .ref (ad 951))]) [0, 1, 2, 3, 4] rfl ?_
  refine z_aload C 4 dL_compare_0 rfl ?_
  refine z_iconst (z := 0) C dL_compare_2 rfl ?_
  refine z_aload_n C 0 dL_compare_3 rfl ?_
  refine z_iload_n C 1 dL_compare_4 rfl ?_
  refine z_iload_n C 2 dL_compare_5 rfl ?_
  refine z_iload_n C 3 dL_compare_6 rfl ?_
  refine z_cVX (As := [.int (zI (z)), .int (zI (z1)), .int (zI (z2))]) (rest := [.int (zI (0)), .ref (ad 951)]) (ci := 11) C (c_X9_compare l D A cs tt N ad _ hN _ _ _ _ _ _ _ _ _ _ _ _ _ _ _ hR hl0 z hz z1 hz1 z2 hz2) (by omega) hay1 hR.1 rfl rfl mv_yX9_compare q_1325 hd_yX9_compare (by decide) (Nat.le_of_ble_eq_true rfl) (by decide) dL_compare_7 rfl (?_) (kI0 fun r0 g0 h0 => ?_)
  · intro E9 N9 ad9 g9 hx9
    obtain ⟨rfl, e2, e3, e4⟩ := hx9
    obtain rfl := e2.symm; obtain rfl := e3.symm; obtain rfl := e4.symm
    refine z_ucatch (name := "java/util/NoSuchElementException") C [] ⟨0, 12, 15, 18⟩ [] hxt (fun z hz => absurd hz List.not_mem_nil) (by decide) (by decide) q_873 n_906 (fun q9 => ?_)
    refine z_astore (lv' := [(5, .ref q9), (0, .ref (ad 0)), (1, .int (zI (z))), (2, .int (zI (z1))), (3, .int (zI (z2))), (4, .ref (ad 951))]) C dL_compare_15 (by decide) rfl ?_
    refine z_iconst (z := 1) C dL_compare_17 rfl ?_
    exact z_iret C hr hlk dL_compare_18 (by decide) (by decide) ⟨1, rfl, zLQ.same, hR, q, hq⟩
  · obtain ⟨hr0, hR0, hF0⟩ := h0
    refine z_i2l C dL_compare_10 (by omega) ?_
    have hgy3 := (hF0 (951) (by omega) (by omega)).trans hq
    refine z_last C (by omega) hay2 hgy3 (0) (by omega) (by omega) (by decide) dL_compare_11 (fun gy4 egy5 => ?_)
    have hgy6 := up_s egy5
    refine z_goto (tgt := 19) C dL_compare_12 (by decide) ?_
    refine z_iconst (z := 0) C dL_compare_19 rfl ?_
    exact z_iret C hr hlk dL_compare_20 (by decide) (by decide) ⟨0, rfl, (show zLQ N ad g N ad g0 from ⟨⟨Nat.le_refl _, fun _ _ => rfl, fun j a b => hF0 j (by omega) (by omega)⟩, fun j a b => hF0 j (by omega) (by omega)⟩).put egy5, hR0.put egy5, _, up_s egy5⟩

set_option maxRecDepth 100000 in
set_option maxHeartbeats 4000000 in
theorem c_L_nearest (l : Launch) (D : va_G) (A : Nat → Prop) (cs : Nat → ClassId) (tt : Nat) (N : Nat) (ad : Nat → Nat) (g : Nat → va_E) (hN : 952 ≤ N) {t fp im nz kz sl ho ua : Int} {st op ai fa mu tb tp : Nat → Int} (hR : okRec cs ad g N t fp im nz kz sl ho ua st op ai fa mu tb tp) (hl0 : l.stackTraces = false) (q : Nat → Int) (hq : g 951 = jA cs 1 q) (z : Int) (hz : -2147483648 ≤ z ∧ z ≤ 2147483647) : zMW l yL_nearest cL_nearest 4 (some .int) [((0 : Nat), (9 : Nat), (12 : Nat), (18 : Nat))] ({ frames := 13, cells := 6, slots := 60, locals := 780 } : Room) D A cs tt N ad g [.ref (ad 0), .int (zI z), .ref (ad 951)] (rI fun _ N' ad' g' => zLQ N ad g N' ad' g' ∧ okRec cs ad' g' N' t fp im nz kz sl ho ua st op ai fa mu tb tp ∧ ∃ q' : Nat → Int, g' 951 = jA cs 1 q') := by
  have hay1 : zAt ad (0) (ad 0) := rfl
  have hay2 : zAt ad (951) (ad 951) := rfl
  refine z_ofW (by decide) (Nat.le_of_ble_eq_true rfl) ?_
  intro p e s m below meth c C hr hlk hxt
  refine z_lv (lv' := [(0, .ref (ad 0)), (1, .int (zI (z))), (2, .ref (ad 951))]) [0, 1, 2] rfl ?_
  refine z_aload_n C 2 dL_nearest_0 rfl ?_
  refine z_iconst (z := 0) C dL_nearest_1 rfl ?_
  refine z_aload_n C 0 dL_nearest_2 rfl ?_
  refine z_iload_n C 1 dL_nearest_3 rfl ?_
  refine z_cVX (As := [.int (zI (z))]) (rest := [.int (zI (0)), .ref (ad 951)]) (ci := 11) C (c_X9_nearest l D A cs tt N ad _ hN _ _ _ _ _ _ _ _ _ _ _ _ _ _ _ hR hl0 z hz) (by omega) hay1 hR.1 rfl rfl mv_yX9_nearest q_1352 hd_yX9_nearest (by decide) (Nat.le_of_ble_eq_true rfl) (by decide) dL_nearest_4 rfl (?_) (kI0 fun r0 g0 h0 => ?_)
  · intro E9 N9 ad9 g9 hx9
    obtain ⟨rfl, e2, e3, e4⟩ := hx9
    obtain rfl := e2.symm; obtain rfl := e3.symm; obtain rfl := e4.symm
    refine z_ucatch (name := "java/util/NoSuchElementException") C [] ⟨0, 9, 12, 18⟩ [] hxt (fun z hz => absurd hz List.not_mem_nil) (by decide) (by decide) q_873 n_906 (fun q9 => ?_)
    refine z_astore_n (lv' := [(3, .ref q9), (0, .ref (ad 0)), (1, .int (zI (z))), (2, .ref (ad 951))]) C dL_nearest_12 rfl (by decide) rfl ?_
    refine z_iconst (z := 1) C dL_nearest_13 rfl ?_
    exact z_iret C hr hlk dL_nearest_14 (by decide) (by decide) ⟨1, rfl, zLQ.same, hR, q, hq⟩
  · obtain ⟨hr0, hR0, hF0⟩ := h0
    refine z_i2l C dL_nearest_7 (by omega) ?_
    have hgy3 := (hF0 (951) (by omega) (by omega)).trans hq
    refine z_last C (by omega) hay2 hgy3 (0) (by omega) (by omega) (by decide) dL_nearest_8 (fun gy4 egy5 => ?_)
    have hgy6 := up_s egy5
    refine z_goto (tgt := 15) C dL_nearest_9 (by decide) ?_
    refine z_iconst (z := 0) C dL_nearest_15 rfl ?_
    exact z_iret C hr hlk dL_nearest_16 (by decide) (by decide) ⟨0, rfl, (show zLQ N ad g N ad g0 from ⟨⟨Nat.le_refl _, fun _ _ => rfl, fun j a b => hF0 j (by omega) (by omega)⟩, fun j a b => hF0 j (by omega) (by omega)⟩).put egy5, hR0.put egy5, _, up_s egy5⟩

set_option maxRecDepth 100000 in
set_option maxHeartbeats 4000000 in
theorem c_L_falls (l : Launch) (D : va_G) (A : Nat → Prop) (cs : Nat → ClassId) (tt : Nat) (N : Nat) (ad : Nat → Nat) (g : Nat → va_E) (hN : 952 ≤ N) {t fp im nz kz sl ho ua : Int} {st op ai fa mu tb tp : Nat → Int} (hR : okRec cs ad g N t fp im nz kz sl ho ua st op ai fa mu tb tp) (hl0 : l.stackTraces = false) (q : Nat → Int) (hq : g 951 = jA cs 1 q) (z : Int) (hz : -2147483648 ≤ z ∧ z ≤ 2147483647) : zMW l yL_falls cL_falls 4 (some .int) [((0 : Nat), (9 : Nat), (12 : Nat), (18 : Nat))] ({ frames := 15, cells := 6, slots := 60, locals := 900 } : Room) D A cs tt N ad g [.ref (ad 0), .int (zI z), .ref (ad 951)] (rI fun _ N' ad' g' => zLQ N ad g N' ad' g' ∧ okRec cs ad' g' N' t fp im nz kz sl ho ua st op ai fa mu tb tp ∧ ∃ q' : Nat → Int, g' 951 = jA cs 1 q') := by
  have hay1 : zAt ad (0) (ad 0) := rfl
  have hay2 : zAt ad (951) (ad 951) := rfl
  refine z_ofW (by decide) (Nat.le_of_ble_eq_true rfl) ?_
  intro p e s m below meth c C hr hlk hxt
  refine z_lv (lv' := [(0, .ref (ad 0)), (1, .int (zI (z))), (2, .ref (ad 951))]) [0, 1, 2] rfl ?_
  refine z_aload_n C 2 dL_falls_0 rfl ?_
  refine z_iconst (z := 0) C dL_falls_1 rfl ?_
  refine z_aload_n C 0 dL_falls_2 rfl ?_
  refine z_iload_n C 1 dL_falls_3 rfl ?_
  refine z_cVX (As := [.int (zI (z))]) (rest := [.int (zI (0)), .ref (ad 951)]) (ci := 11) C (c_X9_falls l D A cs tt N ad _ hN _ _ _ _ _ _ _ _ _ _ _ _ _ _ _ hR hl0 z hz) (by omega) hay1 hR.1 rfl rfl mv_yX9_falls q_1359 hd_yX9_falls (by decide) (Nat.le_of_ble_eq_true rfl) (by decide) dL_falls_4 rfl (?_) (kI0 fun r0 g0 h0 => ?_)
  · intro E9 N9 ad9 g9 hx9
    obtain ⟨rfl, e2, e3, e4⟩ := hx9
    obtain rfl := e2.symm; obtain rfl := e3.symm; obtain rfl := e4.symm
    refine z_ucatch (name := "java/util/NoSuchElementException") C [] ⟨0, 9, 12, 18⟩ [] hxt (fun z hz => absurd hz List.not_mem_nil) (by decide) (by decide) q_873 n_906 (fun q9 => ?_)
    refine z_astore_n (lv' := [(3, .ref q9), (0, .ref (ad 0)), (1, .int (zI (z))), (2, .ref (ad 951))]) C dL_falls_12 rfl (by decide) rfl ?_
    refine z_iconst (z := 1) C dL_falls_13 rfl ?_
    exact z_iret C hr hlk dL_falls_14 (by decide) (by decide) ⟨1, rfl, zLQ.same, hR, q, hq⟩
  · obtain ⟨hr0, hR0, hF0⟩ := h0
    refine z_i2l C dL_falls_7 (by omega) ?_
    have hgy3 := (hF0 (951) (by omega) (by omega)).trans hq
    refine z_last C (by omega) hay2 hgy3 (0) (by omega) (by omega) (by decide) dL_falls_8 (fun gy4 egy5 => ?_)
    have hgy6 := up_s egy5
    refine z_goto (tgt := 15) C dL_falls_9 (by decide) ?_
    refine z_iconst (z := 0) C dL_falls_15 rfl ?_
    exact z_iret C hr hlk dL_falls_16 (by decide) (by decide) ⟨0, rfl, (show zLQ N ad g N ad g0 from ⟨⟨Nat.le_refl _, fun _ _ => rfl, fun j a b => hF0 j (by omega) (by omega)⟩, fun j a b => hF0 j (by omega) (by omega)⟩).put egy5, hR0.put egy5, _, up_s egy5⟩

set_option maxRecDepth 100000 in
set_option maxHeartbeats 4000000 in
theorem c_L_look (l : Launch) (D : va_G) (A : Nat → Prop) (cs : Nat → ClassId) (tt : Nat) (N : Nat) (ad : Nat → Nat) (g : Nat → va_E) (hN : 952 ≤ N) {t fp im nz kz sl ho ua : Int} {st op ai fa mu tb tp : Nat → Int} (hR : okRec cs ad g N t fp im nz kz sl ho ua st op ai fa mu tb tp) (hl0 : l.stackTraces = false) (q : Nat → Int) (hq : g 951 = jA cs 1 q) (z : Int) (hz : -2147483648 ≤ z ∧ z ≤ 2147483647) : zMW l yL_look cL_look 4 (some .int) [((0 : Nat), (9 : Nat), (12 : Nat), (18 : Nat))] ({ frames := 15, cells := 6, slots := 60, locals := 900 } : Room) D A cs tt N ad g [.ref (ad 0), .int (zI z), .ref (ad 951)] (rI fun _ N' ad' g' => zLQ N ad g N' ad' g' ∧ okRec cs ad' g' N' t fp im nz kz sl ho ua st op ai fa mu tb tp ∧ ∃ q' : Nat → Int, g' 951 = jA cs 1 q') := by
  have hay1 : zAt ad (0) (ad 0) := rfl
  have hay2 : zAt ad (951) (ad 951) := rfl
  refine z_ofW (by decide) (Nat.le_of_ble_eq_true rfl) ?_
  intro p e s m below meth c C hr hlk hxt
  refine z_lv (lv' := [(0, .ref (ad 0)), (1, .int (zI (z))), (2, .ref (ad 951))]) [0, 1, 2] rfl ?_
  refine z_aload_n C 2 dL_look_0 rfl ?_
  refine z_iconst (z := 0) C dL_look_1 rfl ?_
  refine z_aload_n C 0 dL_look_2 rfl ?_
  refine z_iload_n C 1 dL_look_3 rfl ?_
  refine z_cVX (As := [.int (zI (z))]) (rest := [.int (zI (0)), .ref (ad 951)]) (ci := 11) C (c_X9_look l D A cs tt N ad _ hN _ _ _ _ _ _ _ _ _ _ _ _ _ _ _ hR hl0 z hz) (by omega) hay1 hR.1 rfl rfl mv_yX9_look q_1404 hd_yX9_look (by decide) (Nat.le_of_ble_eq_true rfl) (by decide) dL_look_4 rfl (?_) (kI0 fun r0 g0 h0 => ?_)
  · intro E9 N9 ad9 g9 hx9
    obtain ⟨rfl, e2, e3, e4⟩ := hx9
    obtain rfl := e2.symm; obtain rfl := e3.symm; obtain rfl := e4.symm
    refine z_ucatch (name := "java/util/NoSuchElementException") C [] ⟨0, 9, 12, 18⟩ [] hxt (fun z hz => absurd hz List.not_mem_nil) (by decide) (by decide) q_873 n_906 (fun q9 => ?_)
    refine z_astore_n (lv' := [(3, .ref q9), (0, .ref (ad 0)), (1, .int (zI (z))), (2, .ref (ad 951))]) C dL_look_12 rfl (by decide) rfl ?_
    refine z_iconst (z := 1) C dL_look_13 rfl ?_
    exact z_iret C hr hlk dL_look_14 (by decide) (by decide) ⟨1, rfl, zLQ.same, hR, q, hq⟩
  · obtain ⟨hr0, hR0, hF0⟩ := h0
    refine z_i2l C dL_look_7 (by omega) ?_
    have hgy3 := (hF0 (951) (by omega) (by omega)).trans hq
    refine z_last C (by omega) hay2 hgy3 (0) (by omega) (by omega) (by decide) dL_look_8 (fun gy4 egy5 => ?_)
    have hgy6 := up_s egy5
    refine z_goto (tgt := 15) C dL_look_9 (by decide) ?_
    refine z_iconst (z := 0) C dL_look_15 rfl ?_
    exact z_iret C hr hlk dL_look_16 (by decide) (by decide) ⟨0, rfl, (show zLQ N ad g N ad g0 from ⟨⟨Nat.le_refl _, fun _ _ => rfl, fun j a b => hF0 j (by omega) (by omega)⟩, fun j a b => hF0 j (by omega) (by omega)⟩).put egy5, hR0.put egy5, _, up_s egy5⟩

set_option maxRecDepth 100000 in
set_option maxHeartbeats 4000000 in
theorem c_L_odds (l : Launch) (D : va_G) (A : Nat → Prop) (cs : Nat → ClassId) (tt : Nat) (N : Nat) (ad : Nat → Nat) (g : Nat → va_E) (hN : 952 ≤ N) {t fp im nz kz sl ho ua : Int} {st op ai fa mu tb tp : Nat → Int} (hR : okRec cs ad g N t fp im nz kz sl ho ua st op ai fa mu tb tp) (hl0 : l.stackTraces = false) (q : Nat → Int) (hq : g 951 = jA cs 1 q) (z : Int) (hz : -2147483648 ≤ z ∧ z ≤ 2147483647) (z1 : Int) (hz1 : -2147483648 ≤ z1 ∧ z1 ≤ 2147483647) (z2 : Int) (hz2 : -2147483648 ≤ z2 ∧ z2 ≤ 2147483647) : zMW l yL_odds cL_odds 6 (some .int) [((0 : Nat), (12 : Nat), (15 : Nat), (18 : Nat)), ((0 : Nat), (12 : Nat), (19 : Nat), (13 : Nat))] ({ frames := 13, cells := 6, slots := 60, locals := 780 } : Room) D A cs tt N ad g [.ref (ad 0), .int (zI z), .int (zI z1), .int (zI z2), .ref (ad 951)] (rI fun _ N' ad' g' => zLQ N ad g N' ad' g' ∧ okRec cs ad' g' N' t fp im nz kz sl ho ua st op ai fa mu tb tp ∧ ∃ q' : Nat → Int, g' 951 = jA cs 1 q') := by
  have hay1 : zAt ad (0) (ad 0) := rfl
  have hay2 : zAt ad (951) (ad 951) := rfl
  refine z_ofW (by decide) (Nat.le_of_ble_eq_true rfl) ?_
  intro p e s m below meth c C hr hlk hxt
  refine z_lv (lv' := [(0, .ref (ad 0)), (1, .int (zI (z))), (2, .int (zI (z1))), (3, .int (zI (z2))), (4, .ref (ad 951))]) [0, 1, 2, 3, 4] rfl ?_
  refine z_aload C 4 dL_odds_0 rfl ?_
  refine z_iconst (z := 0) C dL_odds_2 rfl ?_
  refine z_aload_n C 0 dL_odds_3 rfl ?_
  refine z_iload_n C 1 dL_odds_4 rfl ?_
  refine z_iload_n C 2 dL_odds_5 rfl ?_
  refine z_iload_n C 3 dL_odds_6 rfl ?_
  refine z_cVX (As := [.int (zI (z)), .int (zI (z1)), .int (zI (z2))]) (rest := [.int (zI (0)), .ref (ad 951)]) (ci := 11) C (c_X9_odds l D A cs tt N ad _ hN _ _ _ _ _ _ _ _ _ _ _ _ _ _ _ hR hl0 z hz z1 hz1 z2 hz2) (by omega) hay1 hR.1 rfl rfl mv_yX9_odds q_1411 hd_yX9_odds (by decide) (Nat.le_of_ble_eq_true rfl) (by decide) dL_odds_7 rfl (?_) (kI0 fun r0 g0 h0 => ?_)
  · intro E9 N9 ad9 g9 hx9
    obtain ⟨h9, e2, e3, e4⟩ := hx9
    obtain rfl := e2.symm; obtain rfl := e3.symm; obtain rfl := e4.symm
    rcases h9 with rfl | rfl
    · refine z_ucatch (name := "java/util/NoSuchElementException") C [] ⟨0, 12, 15, 18⟩ [⟨0, 12, 19, 13⟩] hxt (fun z hz => absurd hz List.not_mem_nil) (by decide) (by decide) q_873 n_906 (fun q9 => ?_)
      refine z_astore (lv' := [(5, .ref q9), (0, .ref (ad 0)), (1, .int (zI (z))), (2, .int (zI (z1))), (3, .int (zI (z2))), (4, .ref (ad 951))]) C dL_odds_15 (by decide) rfl ?_
      refine z_iconst (z := 1) C dL_odds_17 rfl ?_
      exact z_iret C hr hlk dL_odds_18 (by decide) (by decide) ⟨1, rfl, zLQ.same, hR, q, hq⟩
    · refine z_ucatch (name := "java/lang/IllegalArgumentException") C [⟨0, 12, 15, 18⟩] ⟨0, 12, 19, 13⟩ [] hxt (fun z hz => by obtain rfl := List.mem_singleton.mp hz; exact Or.inr ⟨by decide, _, q_873, zE_nc C.2.2.2.2.2⟩) (by decide) (by decide) q_653 n_660 (fun q9 => ?_)
      refine z_astore (lv' := [(5, .ref q9), (0, .ref (ad 0)), (1, .int (zI (z))), (2, .int (zI (z1))), (3, .int (zI (z2))), (4, .ref (ad 951))]) C dL_odds_19 (by decide) rfl ?_
      refine z_iconst (z := 2) C dL_odds_21 rfl ?_
      exact z_iret C hr hlk dL_odds_22 (by decide) (by decide) ⟨2, rfl, zLQ.same, hR, q, hq⟩
  · obtain ⟨hr0, hR0, hF0⟩ := h0
    refine z_i2l C dL_odds_10 (by omega) ?_
    have hgy3 := (hF0 (951) (by omega) (by omega)).trans hq
    refine z_last C (by omega) hay2 hgy3 (0) (by omega) (by omega) (by decide) dL_odds_11 (fun gy4 egy5 => ?_)
    have hgy6 := up_s egy5
    refine z_goto (tgt := 23) C dL_odds_12 (by decide) ?_
    refine z_iconst (z := 0) C dL_odds_23 rfl ?_
    exact z_iret C hr hlk dL_odds_24 (by decide) (by decide) ⟨0, rfl, (show zLQ N ad g N ad g0 from ⟨⟨Nat.le_refl _, fun _ _ => rfl, fun j a b => hF0 j (by omega) (by omega)⟩, fun j a b => hF0 j (by omega) (by omega)⟩).put egy5, hR0.put egy5, _, up_s egy5⟩

set_option maxRecDepth 100000 in
set_option maxHeartbeats 4000000 in
theorem c_L_years (l : Launch) (D : va_G) (A : Nat → Prop) (cs : Nat → ClassId) (tt : Nat) (N : Nat) (ad : Nat → Nat) (g : Nat → va_E) (hN : 952 ≤ N) {t fp im nz kz sl ho ua : Int} {st op ai fa mu tb tp : Nat → Int} (hR : okRec cs ad g N t fp im nz kz sl ho ua st op ai fa mu tb tp) (hl0 : l.stackTraces = false) (q : Nat → Int) (hq : g 951 = jA cs 1 q) (z : Int) (hz : -2147483648 ≤ z ∧ z ≤ 2147483647) (z1 : Int) (hz1 : -2147483648 ≤ z1 ∧ z1 ≤ 2147483647) (z2 : Int) (hz2 : -2147483648 ≤ z2 ∧ z2 ≤ 2147483647) : zMW l yL_years cL_years 6 (some .int) [((0 : Nat), (12 : Nat), (15 : Nat), (18 : Nat)), ((0 : Nat), (12 : Nat), (19 : Nat), (13 : Nat))] ({ frames := 13, cells := 6, slots := 60, locals := 780 } : Room) D A cs tt N ad g [.ref (ad 0), .int (zI z), .int (zI z1), .int (zI z2), .ref (ad 951)] (rI fun _ N' ad' g' => zLQ N ad g N' ad' g' ∧ okRec cs ad' g' N' t fp im nz kz sl ho ua st op ai fa mu tb tp ∧ ∃ q' : Nat → Int, g' 951 = jA cs 1 q') := by
  have hay1 : zAt ad (0) (ad 0) := rfl
  have hay2 : zAt ad (951) (ad 951) := rfl
  refine z_ofW (by decide) (Nat.le_of_ble_eq_true rfl) ?_
  intro p e s m below meth c C hr hlk hxt
  refine z_lv (lv' := [(0, .ref (ad 0)), (1, .int (zI (z))), (2, .int (zI (z1))), (3, .int (zI (z2))), (4, .ref (ad 951))]) [0, 1, 2, 3, 4] rfl ?_
  refine z_aload C 4 dL_years_0 rfl ?_
  refine z_iconst (z := 0) C dL_years_2 rfl ?_
  refine z_aload_n C 0 dL_years_3 rfl ?_
  refine z_iload_n C 1 dL_years_4 rfl ?_
  refine z_iload_n C 2 dL_years_5 rfl ?_
  refine z_iload_n C 3 dL_years_6 rfl ?_
  refine z_cVX (As := [.int (zI (z)), .int (zI (z1)), .int (zI (z2))]) (rest := [.int (zI (0)), .ref (ad 951)]) (ci := 11) C (c_X9_years l D A cs tt N ad _ hN _ _ _ _ _ _ _ _ _ _ _ _ _ _ _ hR hl0 z hz z1 hz1 z2 hz2) (by omega) hay1 hR.1 rfl rfl mv_yX9_years q_1428 hd_yX9_years (by decide) (Nat.le_of_ble_eq_true rfl) (by decide) dL_years_7 rfl (?_) (kI0 fun r0 g0 h0 => ?_)
  · intro E9 N9 ad9 g9 hx9
    obtain ⟨h9, e2, e3, e4⟩ := hx9
    obtain rfl := e2.symm; obtain rfl := e3.symm; obtain rfl := e4.symm
    rcases h9 with rfl | rfl
    · refine z_ucatch (name := "java/util/NoSuchElementException") C [] ⟨0, 12, 15, 18⟩ [⟨0, 12, 19, 13⟩] hxt (fun z hz => absurd hz List.not_mem_nil) (by decide) (by decide) q_873 n_906 (fun q9 => ?_)
      refine z_astore (lv' := [(5, .ref q9), (0, .ref (ad 0)), (1, .int (zI (z))), (2, .int (zI (z1))), (3, .int (zI (z2))), (4, .ref (ad 951))]) C dL_years_15 (by decide) rfl ?_
      refine z_iconst (z := 1) C dL_years_17 rfl ?_
      exact z_iret C hr hlk dL_years_18 (by decide) (by decide) ⟨1, rfl, zLQ.same, hR, q, hq⟩
    · refine z_ucatch (name := "java/lang/IllegalArgumentException") C [⟨0, 12, 15, 18⟩] ⟨0, 12, 19, 13⟩ [] hxt (fun z hz => by obtain rfl := List.mem_singleton.mp hz; exact Or.inr ⟨by decide, _, q_873, zE_nc C.2.2.2.2.2⟩) (by decide) (by decide) q_653 n_660 (fun q9 => ?_)
      refine z_astore (lv' := [(5, .ref q9), (0, .ref (ad 0)), (1, .int (zI (z))), (2, .int (zI (z1))), (3, .int (zI (z2))), (4, .ref (ad 951))]) C dL_years_19 (by decide) rfl ?_
      refine z_iconst (z := 2) C dL_years_21 rfl ?_
      exact z_iret C hr hlk dL_years_22 (by decide) (by decide) ⟨2, rfl, zLQ.same, hR, q, hq⟩
  · obtain ⟨hr0, hR0, hF0⟩ := h0
    refine z_i2l C dL_years_10 (by omega) ?_
    have hgy3 := (hF0 (951) (by omega) (by omega)).trans hq
    refine z_last C (by omega) hay2 hgy3 (0) (by omega) (by omega) (by decide) dL_years_11 (fun gy4 egy5 => ?_)
    have hgy6 := up_s egy5
    refine z_goto (tgt := 23) C dL_years_12 (by decide) ?_
    refine z_iconst (z := 0) C dL_years_23 rfl ?_
    exact z_iret C hr hlk dL_years_24 (by decide) (by decide) ⟨0, rfl, (show zLQ N ad g N ad g0 from ⟨⟨Nat.le_refl _, fun _ _ => rfl, fun j a b => hF0 j (by omega) (by omega)⟩, fun j a b => hF0 j (by omega) (by omega)⟩).put egy5, hR0.put egy5, _, up_s egy5⟩

theorem mW_yL_snow : zWw yL_snow cL_snow 4 (some .int) [((0 : Nat), (9 : Nat), (12 : Nat), (13 : Nat))] := ⟨q_651, q_0, q_652⟩
theorem mW_yL_count : zWw yL_count cL_count 4 (some .int) [((0 : Nat), (9 : Nat), (12 : Nat), (18 : Nat))] := ⟨q_871, q_0, q_872⟩
theorem mW_yL_forecast : zWw yL_forecast cL_forecast 5 (some .int) [((0 : Nat), (10 : Nat), (13 : Nat), (18 : Nat))] := ⟨q_921, q_0, q_922⟩
theorem mW_yL_slope : zWw yL_slope cL_slope 5 (some .int) [((0 : Nat), (10 : Nat), (13 : Nat), (18 : Nat))] := ⟨q_930, q_0, q_931⟩
theorem mW_yL_layer : zWw yL_layer cL_layer 6 (some .int) [((0 : Nat), (12 : Nat), (15 : Nat), (18 : Nat))] := ⟨q_949, q_0, q_950⟩
theorem mW_yL_told : zWw yL_told cL_told 6 (some .int) [((0 : Nat), (12 : Nat), (15 : Nat), (18 : Nat))] := ⟨q_968, q_0, q_969⟩
theorem mW_yL_then : zWw yL_then cL_then 6 (some .int) [((0 : Nat), (12 : Nat), (15 : Nat), (18 : Nat)), ((0 : Nat), (12 : Nat), (19 : Nat), (13 : Nat))] := ⟨q_1214, q_0, q_1215⟩
theorem mW_yL_once : zWw yL_once cL_once 5 (some .int) [((0 : Nat), (10 : Nat), (13 : Nat), (18 : Nat))] := ⟨q_1234, q_0, q_1235⟩
theorem mW_yL_gone : zWw yL_gone cL_gone 4 (some .int) [((0 : Nat), (9 : Nat), (12 : Nat), (18 : Nat))] := ⟨q_1241, q_0, q_1242⟩
theorem mW_yL_stands : zWw yL_stands cL_stands 5 (some .int) [((0 : Nat), (10 : Nat), (13 : Nat), (18 : Nat))] := ⟨q_1257, q_0, q_1258⟩
theorem mW_yL_toLoad : zWw yL_toLoad cL_toLoad 4 (some .int) [((0 : Nat), (9 : Nat), (12 : Nat), (18 : Nat))] := ⟨q_1268, q_0, q_1269⟩
theorem mW_yL_steepest : zWw yL_steepest cL_steepest 4 (some .int) [((0 : Nat), (9 : Nat), (12 : Nat), (18 : Nat))] := ⟨q_1275, q_0, q_1276⟩
theorem mW_yL_toWarm : zWw yL_toWarm cL_toWarm 5 (some .int) [((0 : Nat), (10 : Nat), (13 : Nat), (18 : Nat)), ((0 : Nat), (10 : Nat), (17 : Nat), (13 : Nat))] := ⟨q_1282, q_0, q_1283⟩
theorem mW_yL_matters : zWw yL_matters cL_matters 6 (some .int) [((0 : Nat), (12 : Nat), (15 : Nat), (18 : Nat)), ((0 : Nat), (12 : Nat), (19 : Nat), (13 : Nat))] := ⟨q_1298, q_0, q_1299⟩
theorem mW_yL_pitOf : zWw yL_pitOf cL_pitOf 5 (some .int) [((0 : Nat), (10 : Nat), (13 : Nat), (18 : Nat))] := ⟨q_1310, q_0, q_1311⟩
theorem mW_yL_compare : zWw yL_compare cL_compare 6 (some .int) [((0 : Nat), (12 : Nat), (15 : Nat), (18 : Nat))] := ⟨q_1323, q_0, q_1324⟩
theorem mW_yL_nearest : zWw yL_nearest cL_nearest 4 (some .int) [((0 : Nat), (9 : Nat), (12 : Nat), (18 : Nat))] := ⟨q_1350, q_0, q_1351⟩
theorem mW_yL_falls : zWw yL_falls cL_falls 4 (some .int) [((0 : Nat), (9 : Nat), (12 : Nat), (18 : Nat))] := ⟨q_1357, q_0, q_1358⟩
theorem mW_yL_look : zWw yL_look cL_look 4 (some .int) [((0 : Nat), (9 : Nat), (12 : Nat), (18 : Nat))] := ⟨q_1402, q_0, q_1403⟩
theorem mW_yL_odds : zWw yL_odds cL_odds 6 (some .int) [((0 : Nat), (12 : Nat), (15 : Nat), (18 : Nat)), ((0 : Nat), (12 : Nat), (19 : Nat), (13 : Nat))] := ⟨q_1409, q_0, q_1410⟩
theorem mW_yL_years : zWw yL_years cL_years 6 (some .int) [((0 : Nat), (12 : Nat), (15 : Nat), (18 : Nat)), ((0 : Nat), (12 : Nat), (19 : Nat), (13 : Nat))] := ⟨q_1426, q_0, q_1427⟩
end
section
-- 9o1a.given.lean.txt
theorem fg_5 : (Jvm.Cond.arrayOf (Jvm.Term.static "SnowRecorder" "TABLE" "[I") Jvm.ClassFile.FieldType.int) ∈ flatC (Jvm.Cond.and given_1 narrow_1) := List.mem_of_getElem? (i := 5) (by decide +kernel)
theorem fg_968 : (Jvm.Cond.exactly (Jvm.Term.static "SnowRecorder" "TABLE" "[I") "[I") ∈ flatC (Jvm.Cond.and given_1 narrow_1) := List.mem_of_getElem? (i := 968) (by decide +kernel)
theorem fg_6 : (Jvm.Cond.eq (Jvm.Term.length (Jvm.Term.static "SnowRecorder" "TABLE" "[I")) (Jvm.Term.int (15 : Int32))) ∈ flatC (Jvm.Cond.and given_1 narrow_1) := List.mem_of_getElem? (i := 6) (by decide +kernel)
theorem fg_7 : (Jvm.Cond.eq (Jvm.Term.elem (Jvm.Term.static "SnowRecorder" "TABLE" "[I") (Jvm.Term.int (0 : Int32))) (Jvm.Term.int (3 : Int32))) ∈ flatC (Jvm.Cond.and given_1 narrow_1) := List.mem_of_getElem? (i := 7) (by decide +kernel)
theorem fg_8 : (Jvm.Cond.eq (Jvm.Term.elem (Jvm.Term.static "SnowRecorder" "TABLE" "[I") (Jvm.Term.int (1 : Int32))) (Jvm.Term.int (12 : Int32))) ∈ flatC (Jvm.Cond.and given_1 narrow_1) := List.mem_of_getElem? (i := 8) (by decide +kernel)
theorem fg_9 : (Jvm.Cond.eq (Jvm.Term.elem (Jvm.Term.static "SnowRecorder" "TABLE" "[I") (Jvm.Term.int (2 : Int32))) (Jvm.Term.int (4 : Int32))) ∈ flatC (Jvm.Cond.and given_1 narrow_1) := List.mem_of_getElem? (i := 9) (by decide +kernel)
theorem fg_10 : (Jvm.Cond.eq (Jvm.Term.elem (Jvm.Term.static "SnowRecorder" "TABLE" "[I") (Jvm.Term.int (3 : Int32))) (Jvm.Term.int (40 : Int32))) ∈ flatC (Jvm.Cond.and given_1 narrow_1) := List.mem_of_getElem? (i := 10) (by decide +kernel)
theorem fg_11 : (Jvm.Cond.eq (Jvm.Term.elem (Jvm.Term.static "SnowRecorder" "TABLE" "[I") (Jvm.Term.int (4 : Int32))) (Jvm.Term.int (1 : Int32))) ∈ flatC (Jvm.Cond.and given_1 narrow_1) := List.mem_of_getElem? (i := 11) (by decide +kernel)
theorem fg_12 : (Jvm.Cond.eq (Jvm.Term.elem (Jvm.Term.static "SnowRecorder" "TABLE" "[I") (Jvm.Term.int (5 : Int32))) (Jvm.Term.int (5 : Int32))) ∈ flatC (Jvm.Cond.and given_1 narrow_1) := List.mem_of_getElem? (i := 12) (by decide +kernel)
theorem fg_13 : (Jvm.Cond.eq (Jvm.Term.elem (Jvm.Term.static "SnowRecorder" "TABLE" "[I") (Jvm.Term.int (6 : Int32))) (Jvm.Term.int (8 : Int32))) ∈ flatC (Jvm.Cond.and given_1 narrow_1) := List.mem_of_getElem? (i := 13) (by decide +kernel)
theorem fg_14 : (Jvm.Cond.eq (Jvm.Term.elem (Jvm.Term.static "SnowRecorder" "TABLE" "[I") (Jvm.Term.int (7 : Int32))) (Jvm.Term.int (3 : Int32))) ∈ flatC (Jvm.Cond.and given_1 narrow_1) := List.mem_of_getElem? (i := 14) (by decide +kernel)
theorem fg_15 : (Jvm.Cond.eq (Jvm.Term.elem (Jvm.Term.static "SnowRecorder" "TABLE" "[I") (Jvm.Term.int (8 : Int32))) (Jvm.Term.int (2 : Int32))) ∈ flatC (Jvm.Cond.and given_1 narrow_1) := List.mem_of_getElem? (i := 15) (by decide +kernel)
theorem fg_16 : (Jvm.Cond.eq (Jvm.Term.elem (Jvm.Term.static "SnowRecorder" "TABLE" "[I") (Jvm.Term.int (9 : Int32))) (Jvm.Term.int (1 : Int32))) ∈ flatC (Jvm.Cond.and given_1 narrow_1) := List.mem_of_getElem? (i := 16) (by decide +kernel)
theorem fg_17 : (Jvm.Cond.eq (Jvm.Term.elem (Jvm.Term.static "SnowRecorder" "TABLE" "[I") (Jvm.Term.int (10 : Int32))) (Jvm.Term.int (1000 : Int32))) ∈ flatC (Jvm.Cond.and given_1 narrow_1) := List.mem_of_getElem? (i := 17) (by decide +kernel)
theorem fg_18 : (Jvm.Cond.eq (Jvm.Term.elem (Jvm.Term.static "SnowRecorder" "TABLE" "[I") (Jvm.Term.int (11 : Int32))) (Jvm.Term.int (4000 : Int32))) ∈ flatC (Jvm.Cond.and given_1 narrow_1) := List.mem_of_getElem? (i := 18) (by decide +kernel)
theorem fg_19 : (Jvm.Cond.eq (Jvm.Term.elem (Jvm.Term.static "SnowRecorder" "TABLE" "[I") (Jvm.Term.int (12 : Int32))) (Jvm.Term.int (6000 : Int32))) ∈ flatC (Jvm.Cond.and given_1 narrow_1) := List.mem_of_getElem? (i := 19) (by decide +kernel)
theorem fg_20 : (Jvm.Cond.eq (Jvm.Term.elem (Jvm.Term.static "SnowRecorder" "TABLE" "[I") (Jvm.Term.int (13 : Int32))) (Jvm.Term.int (9000 : Int32))) ∈ flatC (Jvm.Cond.and given_1 narrow_1) := List.mem_of_getElem? (i := 20) (by decide +kernel)
theorem fg_21 : (Jvm.Cond.eq (Jvm.Term.elem (Jvm.Term.static "SnowRecorder" "TABLE" "[I") (Jvm.Term.int (14 : Int32))) (Jvm.Term.int (8000 : Int32))) ∈ flatC (Jvm.Cond.and given_1 narrow_1) := List.mem_of_getElem? (i := 21) (by decide +kernel)
theorem fg_22 : (Jvm.Cond.eq (Jvm.Term.static "java/lang/String" "COMPACT_STRINGS" "Z") (Jvm.Term.int (1 : Int32))) ∈ flatC (Jvm.Cond.and given_1 narrow_1) := List.mem_of_getElem? (i := 22) (by decide +kernel)
theorem fg_23 : (Jvm.Cond.isRef (Jvm.Term.static "java/lang/Throwable" "UNASSIGNED_STACK" "[Ljava/lang/StackTraceElement;")) ∈ flatC (Jvm.Cond.and given_1 narrow_1) := List.mem_of_getElem? (i := 23) (by decide +kernel)
theorem fg_24 : (Jvm.Cond.isRef (Jvm.Term.static "java/lang/Throwable" "SUPPRESSED_SENTINEL" "Ljava/util/List;")) ∈ flatC (Jvm.Cond.and given_1 narrow_1) := List.mem_of_getElem? (i := 24) (by decide +kernel)
theorem fg_25 : (Jvm.Cond.isRef (Jvm.Term.static "jdk/internal/util/Preconditions" "SIOOBE_FORMATTER" "Ljava/util/function/BiFunction;")) ∈ flatC (Jvm.Cond.and given_1 narrow_1) := List.mem_of_getElem? (i := 25) (by decide +kernel)
theorem fg_342 : (Jvm.Cond.not (Jvm.Cond.castable "java/lang/IllegalArgumentException" "java/util/NoSuchElementException")) ∈ flatC (Jvm.Cond.and given_1 narrow_1) := List.mem_of_getElem? (i := 342) (by decide +kernel)
theorem fg_389 : (Jvm.Cond.exactly (Jvm.Term.string "SnowRecorder" (88 : Nat)) "java/lang/String") ∈ flatC (Jvm.Cond.and given_1 narrow_1) := List.mem_of_getElem? (i := 389) (by decide +kernel)
theorem fg_549 : (Jvm.Cond.exactly (Jvm.Term.string "SnowRecorder" (167 : Nat)) "java/lang/String") ∈ flatC (Jvm.Cond.and given_1 narrow_1) := List.mem_of_getElem? (i := 549) (by decide +kernel)
theorem fg_566 : (Jvm.Cond.exactly (Jvm.Term.string "SnowRecorder" (170 : Nat)) "java/lang/String") ∈ flatC (Jvm.Cond.and given_1 narrow_1) := List.mem_of_getElem? (i := 566) (by decide +kernel)
theorem fg_582 : (Jvm.Cond.exactly (Jvm.Term.string "SnowRecorder" (181 : Nat)) "java/lang/String") ∈ flatC (Jvm.Cond.and given_1 narrow_1) := List.mem_of_getElem? (i := 582) (by decide +kernel)
theorem fg_610 : (Jvm.Cond.exactly (Jvm.Term.string "SnowRecorder" (414 : Nat)) "java/lang/String") ∈ flatC (Jvm.Cond.and given_1 narrow_1) := List.mem_of_getElem? (i := 610) (by decide +kernel)
theorem fg_627 : (Jvm.Cond.exactly (Jvm.Term.string "SnowRecorder" (210 : Nat)) "java/lang/String") ∈ flatC (Jvm.Cond.and given_1 narrow_1) := List.mem_of_getElem? (i := 627) (by decide +kernel)
theorem fg_655 : (Jvm.Cond.exactly (Jvm.Term.string "SnowRecorder" (416 : Nat)) "java/lang/String") ∈ flatC (Jvm.Cond.and given_1 narrow_1) := List.mem_of_getElem? (i := 655) (by decide +kernel)
theorem fg_672 : (Jvm.Cond.exactly (Jvm.Term.string "SnowRecorder" (241 : Nat)) "java/lang/String") ∈ flatC (Jvm.Cond.and given_1 narrow_1) := List.mem_of_getElem? (i := 672) (by decide +kernel)
theorem fg_775 : (Jvm.Cond.exactly (Jvm.Term.string "SnowRecorder" (249 : Nat)) "java/lang/String") ∈ flatC (Jvm.Cond.and given_1 narrow_1) := List.mem_of_getElem? (i := 775) (by decide +kernel)
theorem fg_791 : (Jvm.Cond.exactly (Jvm.Term.string "SnowRecorder" (420 : Nat)) "java/lang/String") ∈ flatC (Jvm.Cond.and given_1 narrow_1) := List.mem_of_getElem? (i := 791) (by decide +kernel)
theorem fg_815 : (Jvm.Cond.exactly (Jvm.Term.string "SnowRecorder" (422 : Nat)) "java/lang/String") ∈ flatC (Jvm.Cond.and given_1 narrow_1) := List.mem_of_getElem? (i := 815) (by decide +kernel)
theorem fg_836 : (Jvm.Cond.exactly (Jvm.Term.string "SnowRecorder" (316 : Nat)) "java/lang/String") ∈ flatC (Jvm.Cond.and given_1 narrow_1) := List.mem_of_getElem? (i := 836) (by decide +kernel)
theorem fg_861 : (Jvm.Cond.exactly (Jvm.Term.string "SnowRecorder" (418 : Nat)) "java/lang/String") ∈ flatC (Jvm.Cond.and given_1 narrow_1) := List.mem_of_getElem? (i := 861) (by decide +kernel)
theorem fg_876 : (Jvm.Cond.exactly (Jvm.Term.string "SnowRecorder" (354 : Nat)) "java/lang/String") ∈ flatC (Jvm.Cond.and given_1 narrow_1) := List.mem_of_getElem? (i := 876) (by decide +kernel)
theorem fg_902 : (Jvm.Cond.exactly (Jvm.Term.string "SnowRecorder" (371 : Nat)) "java/lang/String") ∈ flatC (Jvm.Cond.and given_1 narrow_1) := List.mem_of_getElem? (i := 902) (by decide +kernel)
theorem fg_924 : (Jvm.Cond.exactly (Jvm.Term.string "SnowRecorder" (396 : Nat)) "java/lang/String") ∈ flatC (Jvm.Cond.and given_1 narrow_1) := List.mem_of_getElem? (i := 924) (by decide +kernel)
theorem fg_946 : (Jvm.Cond.exactly (Jvm.Term.string "SnowRecorder" (406 : Nat)) "java/lang/String") ∈ flatC (Jvm.Cond.and given_1 narrow_1) := List.mem_of_getElem? (i := 946) (by decide +kernel)
theorem fw_698 : (Jvm.Cond.stringRef "SnowRecorder" (88 : Nat) "the tape has not so many bytes") ∈ lw_tbl := tb_3 (List.mem_of_getElem? (i := 218) (by decide +kernel))
theorem fw_913 : (Jvm.Cond.stringRef "SnowRecorder" (167 : Nat) "no such count") ∈ lw_tbl := tb_4 (List.mem_of_getElem? (i := 193) (by decide +kernel))
theorem fw_927 : (Jvm.Cond.stringRef "SnowRecorder" (170 : Nat) "no such hour") ∈ lw_tbl := tb_4 (List.mem_of_getElem? (i := 207) (by decide +kernel))
theorem fw_928 : (Jvm.Cond.stringRef "SnowRecorder" (181 : Nat) "no such thing of an hour") ∈ lw_tbl := tb_4 (List.mem_of_getElem? (i := 208) (by decide +kernel))
theorem fw_944 : (Jvm.Cond.stringRef "SnowRecorder" (414 : Nat) "no such slope") ∈ lw_tbl := tb_4 (List.mem_of_getElem? (i := 224) (by decide +kernel))
theorem fw_947 : (Jvm.Cond.stringRef "SnowRecorder" (210 : Nat) "no such thing of a slope") ∈ lw_tbl := tb_4 (List.mem_of_getElem? (i := 227) (by decide +kernel))
theorem fw_959 : (Jvm.Cond.stringRef "SnowRecorder" (416 : Nat) "no such layer") ∈ lw_tbl := tb_4 (List.mem_of_getElem? (i := 239) (by decide +kernel))
theorem fw_966 : (Jvm.Cond.stringRef "SnowRecorder" (241 : Nat) "no such thing of a layer") ∈ lw_tbl := tb_5 (List.mem_of_getElem? (i := 6) (by decide +kernel))
theorem fw_1202 : (Jvm.Cond.stringRef "SnowRecorder" (249 : Nat) "no such sign") ∈ lw_tbl := tb_6 (List.mem_of_getElem? (i := 2) (by decide +kernel))
theorem fw_1223 : (Jvm.Cond.stringRef "SnowRecorder" (420 : Nat) "no such thing to ask") ∈ lw_tbl := tb_6 (List.mem_of_getElem? (i := 23) (by decide +kernel))
theorem fw_1227 : (Jvm.Cond.stringRef "SnowRecorder" (422 : Nat) "not so many hours") ∈ lw_tbl := tb_6 (List.mem_of_getElem? (i := 27) (by decide +kernel))
theorem fw_1247 : (Jvm.Cond.stringRef "SnowRecorder" (316 : Nat) "that name isn't given") ∈ lw_tbl := tb_6 (List.mem_of_getElem? (i := 47) (by decide +kernel))
theorem fw_1320 : (Jvm.Cond.stringRef "SnowRecorder" (418 : Nat) "no such pit") ∈ lw_tbl := tb_6 (List.mem_of_getElem? (i := 120) (by decide +kernel))
theorem fw_1321 : (Jvm.Cond.stringRef "SnowRecorder" (354 : Nat) "no such thing of a pit") ∈ lw_tbl := tb_6 (List.mem_of_getElem? (i := 121) (by decide +kernel))
theorem fw_1348 : (Jvm.Cond.stringRef "SnowRecorder" (371 : Nat) "no such comparison") ∈ lw_tbl := tb_6 (List.mem_of_getElem? (i := 148) (by decide +kernel))
theorem fw_1415 : (Jvm.Cond.stringRef "SnowRecorder" (396 : Nat) "tenths are 0 to 10") ∈ lw_tbl := tb_6 (List.mem_of_getElem? (i := 215) (by decide +kernel))
theorem fw_1432 : (Jvm.Cond.stringRef "SnowRecorder" (406 : Nat) "years are 0 to 30") ∈ lw_tbl := tb_6 (List.mem_of_getElem? (i := 232) (by decide +kernel))
theorem fg_425 : (Jvm.Cond.arrayOf (Jvm.Term.field (Jvm.Term.string "SnowRecorder$TextReader" (61 : Nat)) "java/lang/String" "value" "[B") Jvm.ClassFile.FieldType.byte) ∈ flatC (Jvm.Cond.and given_1 narrow_1) := List.mem_of_getElem? (i := 425) (by decide +kernel)
theorem fg_426 : (Jvm.Cond.eq (Jvm.Term.length (Jvm.Term.field (Jvm.Term.string "SnowRecorder$TextReader" (61 : Nat)) "java/lang/String" "value" "[B")) (Jvm.Term.int (5 : Int32))) ∈ flatC (Jvm.Cond.and given_1 narrow_1) := List.mem_of_getElem? (i := 426) (by decide +kernel)
theorem fg_427 : (Jvm.Cond.eq (Jvm.Term.elem (Jvm.Term.field (Jvm.Term.string "SnowRecorder$TextReader" (61 : Nat)) "java/lang/String" "value" "[B") (Jvm.Term.int (0 : Int32))) (Jvm.Term.int (115 : Int32))) ∈ flatC (Jvm.Cond.and given_1 narrow_1) := List.mem_of_getElem? (i := 427) (by decide +kernel)
theorem fg_428 : (Jvm.Cond.eq (Jvm.Term.elem (Jvm.Term.field (Jvm.Term.string "SnowRecorder$TextReader" (61 : Nat)) "java/lang/String" "value" "[B") (Jvm.Term.int (1 : Int32))) (Jvm.Term.int (108 : Int32))) ∈ flatC (Jvm.Cond.and given_1 narrow_1) := List.mem_of_getElem? (i := 428) (by decide +kernel)
theorem fg_429 : (Jvm.Cond.eq (Jvm.Term.elem (Jvm.Term.field (Jvm.Term.string "SnowRecorder$TextReader" (61 : Nat)) "java/lang/String" "value" "[B") (Jvm.Term.int (2 : Int32))) (Jvm.Term.int (111 : Int32))) ∈ flatC (Jvm.Cond.and given_1 narrow_1) := List.mem_of_getElem? (i := 429) (by decide +kernel)
theorem fg_430 : (Jvm.Cond.eq (Jvm.Term.elem (Jvm.Term.field (Jvm.Term.string "SnowRecorder$TextReader" (61 : Nat)) "java/lang/String" "value" "[B") (Jvm.Term.int (3 : Int32))) (Jvm.Term.int (112 : Int32))) ∈ flatC (Jvm.Cond.and given_1 narrow_1) := List.mem_of_getElem? (i := 430) (by decide +kernel)
theorem fg_431 : (Jvm.Cond.eq (Jvm.Term.elem (Jvm.Term.field (Jvm.Term.string "SnowRecorder$TextReader" (61 : Nat)) "java/lang/String" "value" "[B") (Jvm.Term.int (4 : Int32))) (Jvm.Term.int (101 : Int32))) ∈ flatC (Jvm.Cond.and given_1 narrow_1) := List.mem_of_getElem? (i := 431) (by decide +kernel)
theorem fg_423 : (Jvm.Cond.exactly (Jvm.Term.string "SnowRecorder$TextReader" (61 : Nat)) "java/lang/String") ∈ flatC (Jvm.Cond.and given_1 narrow_1) := List.mem_of_getElem? (i := 423) (by decide +kernel)
theorem fg_424 : (Jvm.Cond.eq (Jvm.Term.field (Jvm.Term.string "SnowRecorder$TextReader" (61 : Nat)) "java/lang/String" "coder" "B") (Jvm.Term.int (0 : Int32))) ∈ flatC (Jvm.Cond.and given_1 narrow_1) := List.mem_of_getElem? (i := 424) (by decide +kernel)
theorem fw_753 : (Jvm.Cond.stringRef "SnowRecorder$TextReader" (61 : Nat) "slope") ∈ lw_tbl := tb_4 (List.mem_of_getElem? (i := 33) (by decide +kernel))
theorem fg_434 : (Jvm.Cond.arrayOf (Jvm.Term.field (Jvm.Term.string "SnowRecorder$TextReader" (71 : Nat)) "java/lang/String" "value" "[B") Jvm.ClassFile.FieldType.byte) ∈ flatC (Jvm.Cond.and given_1 narrow_1) := List.mem_of_getElem? (i := 434) (by decide +kernel)
theorem fg_435 : (Jvm.Cond.eq (Jvm.Term.length (Jvm.Term.field (Jvm.Term.string "SnowRecorder$TextReader" (71 : Nat)) "java/lang/String" "value" "[B")) (Jvm.Term.int (5 : Int32))) ∈ flatC (Jvm.Cond.and given_1 narrow_1) := List.mem_of_getElem? (i := 435) (by decide +kernel)
theorem fg_436 : (Jvm.Cond.eq (Jvm.Term.elem (Jvm.Term.field (Jvm.Term.string "SnowRecorder$TextReader" (71 : Nat)) "java/lang/String" "value" "[B") (Jvm.Term.int (0 : Int32))) (Jvm.Term.int (108 : Int32))) ∈ flatC (Jvm.Cond.and given_1 narrow_1) := List.mem_of_getElem? (i := 436) (by decide +kernel)
theorem fg_437 : (Jvm.Cond.eq (Jvm.Term.elem (Jvm.Term.field (Jvm.Term.string "SnowRecorder$TextReader" (71 : Nat)) "java/lang/String" "value" "[B") (Jvm.Term.int (1 : Int32))) (Jvm.Term.int (97 : Int32))) ∈ flatC (Jvm.Cond.and given_1 narrow_1) := List.mem_of_getElem? (i := 437) (by decide +kernel)
theorem fg_438 : (Jvm.Cond.eq (Jvm.Term.elem (Jvm.Term.field (Jvm.Term.string "SnowRecorder$TextReader" (71 : Nat)) "java/lang/String" "value" "[B") (Jvm.Term.int (2 : Int32))) (Jvm.Term.int (121 : Int32))) ∈ flatC (Jvm.Cond.and given_1 narrow_1) := List.mem_of_getElem? (i := 438) (by decide +kernel)
theorem fg_439 : (Jvm.Cond.eq (Jvm.Term.elem (Jvm.Term.field (Jvm.Term.string "SnowRecorder$TextReader" (71 : Nat)) "java/lang/String" "value" "[B") (Jvm.Term.int (3 : Int32))) (Jvm.Term.int (101 : Int32))) ∈ flatC (Jvm.Cond.and given_1 narrow_1) := List.mem_of_getElem? (i := 439) (by decide +kernel)
theorem fg_440 : (Jvm.Cond.eq (Jvm.Term.elem (Jvm.Term.field (Jvm.Term.string "SnowRecorder$TextReader" (71 : Nat)) "java/lang/String" "value" "[B") (Jvm.Term.int (4 : Int32))) (Jvm.Term.int (114 : Int32))) ∈ flatC (Jvm.Cond.and given_1 narrow_1) := List.mem_of_getElem? (i := 440) (by decide +kernel)
theorem fg_432 : (Jvm.Cond.exactly (Jvm.Term.string "SnowRecorder$TextReader" (71 : Nat)) "java/lang/String") ∈ flatC (Jvm.Cond.and given_1 narrow_1) := List.mem_of_getElem? (i := 432) (by decide +kernel)
theorem fg_433 : (Jvm.Cond.eq (Jvm.Term.field (Jvm.Term.string "SnowRecorder$TextReader" (71 : Nat)) "java/lang/String" "coder" "B") (Jvm.Term.int (0 : Int32))) ∈ flatC (Jvm.Cond.and given_1 narrow_1) := List.mem_of_getElem? (i := 433) (by decide +kernel)
theorem fw_825 : (Jvm.Cond.stringRef "SnowRecorder$TextReader" (71 : Nat) "layer") ∈ lw_tbl := tb_4 (List.mem_of_getElem? (i := 105) (by decide +kernel))
theorem fg_443 : (Jvm.Cond.arrayOf (Jvm.Term.field (Jvm.Term.string "SnowRecorder" (495 : Nat)) "java/lang/String" "value" "[B") Jvm.ClassFile.FieldType.byte) ∈ flatC (Jvm.Cond.and given_1 narrow_1) := List.mem_of_getElem? (i := 443) (by decide +kernel)
theorem fg_444 : (Jvm.Cond.eq (Jvm.Term.length (Jvm.Term.field (Jvm.Term.string "SnowRecorder" (495 : Nat)) "java/lang/String" "value" "[B")) (Jvm.Term.int (6 : Int32))) ∈ flatC (Jvm.Cond.and given_1 narrow_1) := List.mem_of_getElem? (i := 444) (by decide +kernel)
theorem fg_445 : (Jvm.Cond.eq (Jvm.Term.elem (Jvm.Term.field (Jvm.Term.string "SnowRecorder" (495 : Nat)) "java/lang/String" "value" "[B") (Jvm.Term.int (0 : Int32))) (Jvm.Term.int (112 : Int32))) ∈ flatC (Jvm.Cond.and given_1 narrow_1) := List.mem_of_getElem? (i := 445) (by decide +kernel)
theorem fg_446 : (Jvm.Cond.eq (Jvm.Term.elem (Jvm.Term.field (Jvm.Term.string "SnowRecorder" (495 : Nat)) "java/lang/String" "value" "[B") (Jvm.Term.int (1 : Int32))) (Jvm.Term.int (111 : Int32))) ∈ flatC (Jvm.Cond.and given_1 narrow_1) := List.mem_of_getElem? (i := 446) (by decide +kernel)
theorem fg_447 : (Jvm.Cond.eq (Jvm.Term.elem (Jvm.Term.field (Jvm.Term.string "SnowRecorder" (495 : Nat)) "java/lang/String" "value" "[B") (Jvm.Term.int (2 : Int32))) (Jvm.Term.int (119 : Int32))) ∈ flatC (Jvm.Cond.and given_1 narrow_1) := List.mem_of_getElem? (i := 447) (by decide +kernel)
theorem fg_448 : (Jvm.Cond.eq (Jvm.Term.elem (Jvm.Term.field (Jvm.Term.string "SnowRecorder" (495 : Nat)) "java/lang/String" "value" "[B") (Jvm.Term.int (3 : Int32))) (Jvm.Term.int (100 : Int32))) ∈ flatC (Jvm.Cond.and given_1 narrow_1) := List.mem_of_getElem? (i := 448) (by decide +kernel)
theorem fg_449 : (Jvm.Cond.eq (Jvm.Term.elem (Jvm.Term.field (Jvm.Term.string "SnowRecorder" (495 : Nat)) "java/lang/String" "value" "[B") (Jvm.Term.int (4 : Int32))) (Jvm.Term.int (101 : Int32))) ∈ flatC (Jvm.Cond.and given_1 narrow_1) := List.mem_of_getElem? (i := 449) (by decide +kernel)
theorem fg_450 : (Jvm.Cond.eq (Jvm.Term.elem (Jvm.Term.field (Jvm.Term.string "SnowRecorder" (495 : Nat)) "java/lang/String" "value" "[B") (Jvm.Term.int (5 : Int32))) (Jvm.Term.int (114 : Int32))) ∈ flatC (Jvm.Cond.and given_1 narrow_1) := List.mem_of_getElem? (i := 450) (by decide +kernel)
theorem fg_441 : (Jvm.Cond.exactly (Jvm.Term.string "SnowRecorder" (495 : Nat)) "java/lang/String") ∈ flatC (Jvm.Cond.and given_1 narrow_1) := List.mem_of_getElem? (i := 441) (by decide +kernel)
theorem fg_442 : (Jvm.Cond.eq (Jvm.Term.field (Jvm.Term.string "SnowRecorder" (495 : Nat)) "java/lang/String" "coder" "B") (Jvm.Term.int (0 : Int32))) ∈ flatC (Jvm.Cond.and given_1 narrow_1) := List.mem_of_getElem? (i := 442) (by decide +kernel)
theorem fw_837 : (Jvm.Cond.stringRef "SnowRecorder" (495 : Nat) "powder") ∈ lw_tbl := tb_4 (List.mem_of_getElem? (i := 117) (by decide +kernel))
theorem fg_453 : (Jvm.Cond.arrayOf (Jvm.Term.field (Jvm.Term.string "SnowRecorder" (497 : Nat)) "java/lang/String" "value" "[B") Jvm.ClassFile.FieldType.byte) ∈ flatC (Jvm.Cond.and given_1 narrow_1) := List.mem_of_getElem? (i := 453) (by decide +kernel)
theorem fg_454 : (Jvm.Cond.eq (Jvm.Term.length (Jvm.Term.field (Jvm.Term.string "SnowRecorder" (497 : Nat)) "java/lang/String" "value" "[B")) (Jvm.Term.int (6 : Int32))) ∈ flatC (Jvm.Cond.and given_1 narrow_1) := List.mem_of_getElem? (i := 454) (by decide +kernel)
theorem fg_455 : (Jvm.Cond.eq (Jvm.Term.elem (Jvm.Term.field (Jvm.Term.string "SnowRecorder" (497 : Nat)) "java/lang/String" "value" "[B") (Jvm.Term.int (0 : Int32))) (Jvm.Term.int (103 : Int32))) ∈ flatC (Jvm.Cond.and given_1 narrow_1) := List.mem_of_getElem? (i := 455) (by decide +kernel)
theorem fg_456 : (Jvm.Cond.eq (Jvm.Term.elem (Jvm.Term.field (Jvm.Term.string "SnowRecorder" (497 : Nat)) "java/lang/String" "value" "[B") (Jvm.Term.int (1 : Int32))) (Jvm.Term.int (114 : Int32))) ∈ flatC (Jvm.Cond.and given_1 narrow_1) := List.mem_of_getElem? (i := 456) (by decide +kernel)
theorem fg_457 : (Jvm.Cond.eq (Jvm.Term.elem (Jvm.Term.field (Jvm.Term.string "SnowRecorder" (497 : Nat)) "java/lang/String" "value" "[B") (Jvm.Term.int (2 : Int32))) (Jvm.Term.int (97 : Int32))) ∈ flatC (Jvm.Cond.and given_1 narrow_1) := List.mem_of_getElem? (i := 457) (by decide +kernel)
theorem fg_458 : (Jvm.Cond.eq (Jvm.Term.elem (Jvm.Term.field (Jvm.Term.string "SnowRecorder" (497 : Nat)) "java/lang/String" "value" "[B") (Jvm.Term.int (3 : Int32))) (Jvm.Term.int (105 : Int32))) ∈ flatC (Jvm.Cond.and given_1 narrow_1) := List.mem_of_getElem? (i := 458) (by decide +kernel)
theorem fg_459 : (Jvm.Cond.eq (Jvm.Term.elem (Jvm.Term.field (Jvm.Term.string "SnowRecorder" (497 : Nat)) "java/lang/String" "value" "[B") (Jvm.Term.int (4 : Int32))) (Jvm.Term.int (110 : Int32))) ∈ flatC (Jvm.Cond.and given_1 narrow_1) := List.mem_of_getElem? (i := 459) (by decide +kernel)
theorem fg_460 : (Jvm.Cond.eq (Jvm.Term.elem (Jvm.Term.field (Jvm.Term.string "SnowRecorder" (497 : Nat)) "java/lang/String" "value" "[B") (Jvm.Term.int (5 : Int32))) (Jvm.Term.int (115 : Int32))) ∈ flatC (Jvm.Cond.and given_1 narrow_1) := List.mem_of_getElem? (i := 460) (by decide +kernel)
theorem fg_451 : (Jvm.Cond.exactly (Jvm.Term.string "SnowRecorder" (497 : Nat)) "java/lang/String") ∈ flatC (Jvm.Cond.and given_1 narrow_1) := List.mem_of_getElem? (i := 451) (by decide +kernel)
theorem fg_452 : (Jvm.Cond.eq (Jvm.Term.field (Jvm.Term.string "SnowRecorder" (497 : Nat)) "java/lang/String" "coder" "B") (Jvm.Term.int (0 : Int32))) ∈ flatC (Jvm.Cond.and given_1 narrow_1) := List.mem_of_getElem? (i := 452) (by decide +kernel)
theorem fw_838 : (Jvm.Cond.stringRef "SnowRecorder" (497 : Nat) "grains") ∈ lw_tbl := tb_4 (List.mem_of_getElem? (i := 118) (by decide +kernel))
theorem fg_463 : (Jvm.Cond.arrayOf (Jvm.Term.field (Jvm.Term.string "SnowRecorder" (499 : Nat)) "java/lang/String" "value" "[B") Jvm.ClassFile.FieldType.byte) ∈ flatC (Jvm.Cond.and given_1 narrow_1) := List.mem_of_getElem? (i := 463) (by decide +kernel)
theorem fg_464 : (Jvm.Cond.eq (Jvm.Term.length (Jvm.Term.field (Jvm.Term.string "SnowRecorder" (499 : Nat)) "java/lang/String" "value" "[B")) (Jvm.Term.int (6 : Int32))) ∈ flatC (Jvm.Cond.and given_1 narrow_1) := List.mem_of_getElem? (i := 464) (by decide +kernel)
theorem fg_465 : (Jvm.Cond.eq (Jvm.Term.elem (Jvm.Term.field (Jvm.Term.string "SnowRecorder" (499 : Nat)) "java/lang/String" "value" "[B") (Jvm.Term.int (0 : Int32))) (Jvm.Term.int (102 : Int32))) ∈ flatC (Jvm.Cond.and given_1 narrow_1) := List.mem_of_getElem? (i := 465) (by decide +kernel)
theorem fg_466 : (Jvm.Cond.eq (Jvm.Term.elem (Jvm.Term.field (Jvm.Term.string "SnowRecorder" (499 : Nat)) "java/lang/String" "value" "[B") (Jvm.Term.int (1 : Int32))) (Jvm.Term.int (97 : Int32))) ∈ flatC (Jvm.Cond.and given_1 narrow_1) := List.mem_of_getElem? (i := 466) (by decide +kernel)
theorem fg_467 : (Jvm.Cond.eq (Jvm.Term.elem (Jvm.Term.field (Jvm.Term.string "SnowRecorder" (499 : Nat)) "java/lang/String" "value" "[B") (Jvm.Term.int (2 : Int32))) (Jvm.Term.int (99 : Int32))) ∈ flatC (Jvm.Cond.and given_1 narrow_1) := List.mem_of_getElem? (i := 467) (by decide +kernel)
theorem fg_468 : (Jvm.Cond.eq (Jvm.Term.elem (Jvm.Term.field (Jvm.Term.string "SnowRecorder" (499 : Nat)) "java/lang/String" "value" "[B") (Jvm.Term.int (3 : Int32))) (Jvm.Term.int (101 : Int32))) ∈ flatC (Jvm.Cond.and given_1 narrow_1) := List.mem_of_getElem? (i := 468) (by decide +kernel)
theorem fg_469 : (Jvm.Cond.eq (Jvm.Term.elem (Jvm.Term.field (Jvm.Term.string "SnowRecorder" (499 : Nat)) "java/lang/String" "value" "[B") (Jvm.Term.int (4 : Int32))) (Jvm.Term.int (116 : Int32))) ∈ flatC (Jvm.Cond.and given_1 narrow_1) := List.mem_of_getElem? (i := 469) (by decide +kernel)
theorem fg_470 : (Jvm.Cond.eq (Jvm.Term.elem (Jvm.Term.field (Jvm.Term.string "SnowRecorder" (499 : Nat)) "java/lang/String" "value" "[B") (Jvm.Term.int (5 : Int32))) (Jvm.Term.int (115 : Int32))) ∈ flatC (Jvm.Cond.and given_1 narrow_1) := List.mem_of_getElem? (i := 470) (by decide +kernel)
theorem fg_461 : (Jvm.Cond.exactly (Jvm.Term.string "SnowRecorder" (499 : Nat)) "java/lang/String") ∈ flatC (Jvm.Cond.and given_1 narrow_1) := List.mem_of_getElem? (i := 461) (by decide +kernel)
theorem fg_462 : (Jvm.Cond.eq (Jvm.Term.field (Jvm.Term.string "SnowRecorder" (499 : Nat)) "java/lang/String" "coder" "B") (Jvm.Term.int (0 : Int32))) ∈ flatC (Jvm.Cond.and given_1 narrow_1) := List.mem_of_getElem? (i := 462) (by decide +kernel)
theorem fw_839 : (Jvm.Cond.stringRef "SnowRecorder" (499 : Nat) "facets") ∈ lw_tbl := tb_4 (List.mem_of_getElem? (i := 119) (by decide +kernel))
theorem fg_473 : (Jvm.Cond.arrayOf (Jvm.Term.field (Jvm.Term.string "SnowRecorder" (501 : Nat)) "java/lang/String" "value" "[B") Jvm.ClassFile.FieldType.byte) ∈ flatC (Jvm.Cond.and given_1 narrow_1) := List.mem_of_getElem? (i := 473) (by decide +kernel)
theorem fg_474 : (Jvm.Cond.eq (Jvm.Term.length (Jvm.Term.field (Jvm.Term.string "SnowRecorder" (501 : Nat)) "java/lang/String" "value" "[B")) (Jvm.Term.int (5 : Int32))) ∈ flatC (Jvm.Cond.and given_1 narrow_1) := List.mem_of_getElem? (i := 474) (by decide +kernel)
theorem fg_475 : (Jvm.Cond.eq (Jvm.Term.elem (Jvm.Term.field (Jvm.Term.string "SnowRecorder" (501 : Nat)) "java/lang/String" "value" "[B") (Jvm.Term.int (0 : Int32))) (Jvm.Term.int (99 : Int32))) ∈ flatC (Jvm.Cond.and given_1 narrow_1) := List.mem_of_getElem? (i := 475) (by decide +kernel)
theorem fg_476 : (Jvm.Cond.eq (Jvm.Term.elem (Jvm.Term.field (Jvm.Term.string "SnowRecorder" (501 : Nat)) "java/lang/String" "value" "[B") (Jvm.Term.int (1 : Int32))) (Jvm.Term.int (114 : Int32))) ∈ flatC (Jvm.Cond.and given_1 narrow_1) := List.mem_of_getElem? (i := 476) (by decide +kernel)
theorem fg_477 : (Jvm.Cond.eq (Jvm.Term.elem (Jvm.Term.field (Jvm.Term.string "SnowRecorder" (501 : Nat)) "java/lang/String" "value" "[B") (Jvm.Term.int (2 : Int32))) (Jvm.Term.int (117 : Int32))) ∈ flatC (Jvm.Cond.and given_1 narrow_1) := List.mem_of_getElem? (i := 477) (by decide +kernel)
theorem fg_478 : (Jvm.Cond.eq (Jvm.Term.elem (Jvm.Term.field (Jvm.Term.string "SnowRecorder" (501 : Nat)) "java/lang/String" "value" "[B") (Jvm.Term.int (3 : Int32))) (Jvm.Term.int (115 : Int32))) ∈ flatC (Jvm.Cond.and given_1 narrow_1) := List.mem_of_getElem? (i := 478) (by decide +kernel)
theorem fg_479 : (Jvm.Cond.eq (Jvm.Term.elem (Jvm.Term.field (Jvm.Term.string "SnowRecorder" (501 : Nat)) "java/lang/String" "value" "[B") (Jvm.Term.int (4 : Int32))) (Jvm.Term.int (116 : Int32))) ∈ flatC (Jvm.Cond.and given_1 narrow_1) := List.mem_of_getElem? (i := 479) (by decide +kernel)
theorem fg_471 : (Jvm.Cond.exactly (Jvm.Term.string "SnowRecorder" (501 : Nat)) "java/lang/String") ∈ flatC (Jvm.Cond.and given_1 narrow_1) := List.mem_of_getElem? (i := 471) (by decide +kernel)
theorem fg_472 : (Jvm.Cond.eq (Jvm.Term.field (Jvm.Term.string "SnowRecorder" (501 : Nat)) "java/lang/String" "coder" "B") (Jvm.Term.int (0 : Int32))) ∈ flatC (Jvm.Cond.and given_1 narrow_1) := List.mem_of_getElem? (i := 472) (by decide +kernel)
theorem fw_840 : (Jvm.Cond.stringRef "SnowRecorder" (501 : Nat) "crust") ∈ lw_tbl := tb_4 (List.mem_of_getElem? (i := 120) (by decide +kernel))
theorem fg_482 : (Jvm.Cond.arrayOf (Jvm.Term.field (Jvm.Term.string "SnowRecorder" (503 : Nat)) "java/lang/String" "value" "[B") Jvm.ClassFile.FieldType.byte) ∈ flatC (Jvm.Cond.and given_1 narrow_1) := List.mem_of_getElem? (i := 482) (by decide +kernel)
theorem fg_483 : (Jvm.Cond.eq (Jvm.Term.length (Jvm.Term.field (Jvm.Term.string "SnowRecorder" (503 : Nat)) "java/lang/String" "value" "[B")) (Jvm.Term.int (4 : Int32))) ∈ flatC (Jvm.Cond.and given_1 narrow_1) := List.mem_of_getElem? (i := 483) (by decide +kernel)
theorem fg_484 : (Jvm.Cond.eq (Jvm.Term.elem (Jvm.Term.field (Jvm.Term.string "SnowRecorder" (503 : Nat)) "java/lang/String" "value" "[B") (Jvm.Term.int (0 : Int32))) (Jvm.Term.int (104 : Int32))) ∈ flatC (Jvm.Cond.and given_1 narrow_1) := List.mem_of_getElem? (i := 484) (by decide +kernel)
theorem fg_485 : (Jvm.Cond.eq (Jvm.Term.elem (Jvm.Term.field (Jvm.Term.string "SnowRecorder" (503 : Nat)) "java/lang/String" "value" "[B") (Jvm.Term.int (1 : Int32))) (Jvm.Term.int (111 : Int32))) ∈ flatC (Jvm.Cond.and given_1 narrow_1) := List.mem_of_getElem? (i := 485) (by decide +kernel)
theorem fg_486 : (Jvm.Cond.eq (Jvm.Term.elem (Jvm.Term.field (Jvm.Term.string "SnowRecorder" (503 : Nat)) "java/lang/String" "value" "[B") (Jvm.Term.int (2 : Int32))) (Jvm.Term.int (97 : Int32))) ∈ flatC (Jvm.Cond.and given_1 narrow_1) := List.mem_of_getElem? (i := 486) (by decide +kernel)
theorem fg_487 : (Jvm.Cond.eq (Jvm.Term.elem (Jvm.Term.field (Jvm.Term.string "SnowRecorder" (503 : Nat)) "java/lang/String" "value" "[B") (Jvm.Term.int (3 : Int32))) (Jvm.Term.int (114 : Int32))) ∈ flatC (Jvm.Cond.and given_1 narrow_1) := List.mem_of_getElem? (i := 487) (by decide +kernel)
theorem fg_480 : (Jvm.Cond.exactly (Jvm.Term.string "SnowRecorder" (503 : Nat)) "java/lang/String") ∈ flatC (Jvm.Cond.and given_1 narrow_1) := List.mem_of_getElem? (i := 480) (by decide +kernel)
theorem fg_481 : (Jvm.Cond.eq (Jvm.Term.field (Jvm.Term.string "SnowRecorder" (503 : Nat)) "java/lang/String" "coder" "B") (Jvm.Term.int (0 : Int32))) ∈ flatC (Jvm.Cond.and given_1 narrow_1) := List.mem_of_getElem? (i := 481) (by decide +kernel)
theorem fw_841 : (Jvm.Cond.stringRef "SnowRecorder" (503 : Nat) "hoar") ∈ lw_tbl := tb_4 (List.mem_of_getElem? (i := 121) (by decide +kernel))
theorem fg_490 : (Jvm.Cond.arrayOf (Jvm.Term.field (Jvm.Term.string "SnowRecorder$TextReader" (76 : Nat)) "java/lang/String" "value" "[B") Jvm.ClassFile.FieldType.byte) ∈ flatC (Jvm.Cond.and given_1 narrow_1) := List.mem_of_getElem? (i := 490) (by decide +kernel)
theorem fg_491 : (Jvm.Cond.eq (Jvm.Term.length (Jvm.Term.field (Jvm.Term.string "SnowRecorder$TextReader" (76 : Nat)) "java/lang/String" "value" "[B")) (Jvm.Term.int (4 : Int32))) ∈ flatC (Jvm.Cond.and given_1 narrow_1) := List.mem_of_getElem? (i := 491) (by decide +kernel)
theorem fg_492 : (Jvm.Cond.eq (Jvm.Term.elem (Jvm.Term.field (Jvm.Term.string "SnowRecorder$TextReader" (76 : Nat)) "java/lang/String" "value" "[B") (Jvm.Term.int (0 : Int32))) (Jvm.Term.int (104 : Int32))) ∈ flatC (Jvm.Cond.and given_1 narrow_1) := List.mem_of_getElem? (i := 492) (by decide +kernel)
theorem fg_493 : (Jvm.Cond.eq (Jvm.Term.elem (Jvm.Term.field (Jvm.Term.string "SnowRecorder$TextReader" (76 : Nat)) "java/lang/String" "value" "[B") (Jvm.Term.int (1 : Int32))) (Jvm.Term.int (111 : Int32))) ∈ flatC (Jvm.Cond.and given_1 narrow_1) := List.mem_of_getElem? (i := 493) (by decide +kernel)
theorem fg_494 : (Jvm.Cond.eq (Jvm.Term.elem (Jvm.Term.field (Jvm.Term.string "SnowRecorder$TextReader" (76 : Nat)) "java/lang/String" "value" "[B") (Jvm.Term.int (2 : Int32))) (Jvm.Term.int (117 : Int32))) ∈ flatC (Jvm.Cond.and given_1 narrow_1) := List.mem_of_getElem? (i := 494) (by decide +kernel)
theorem fg_495 : (Jvm.Cond.eq (Jvm.Term.elem (Jvm.Term.field (Jvm.Term.string "SnowRecorder$TextReader" (76 : Nat)) "java/lang/String" "value" "[B") (Jvm.Term.int (3 : Int32))) (Jvm.Term.int (114 : Int32))) ∈ flatC (Jvm.Cond.and given_1 narrow_1) := List.mem_of_getElem? (i := 495) (by decide +kernel)
theorem fg_488 : (Jvm.Cond.exactly (Jvm.Term.string "SnowRecorder$TextReader" (76 : Nat)) "java/lang/String") ∈ flatC (Jvm.Cond.and given_1 narrow_1) := List.mem_of_getElem? (i := 488) (by decide +kernel)
theorem fg_489 : (Jvm.Cond.eq (Jvm.Term.field (Jvm.Term.string "SnowRecorder$TextReader" (76 : Nat)) "java/lang/String" "coder" "B") (Jvm.Term.int (0 : Int32))) ∈ flatC (Jvm.Cond.and given_1 narrow_1) := List.mem_of_getElem? (i := 489) (by decide +kernel)
theorem fw_843 : (Jvm.Cond.stringRef "SnowRecorder$TextReader" (76 : Nat) "hour") ∈ lw_tbl := tb_4 (List.mem_of_getElem? (i := 123) (by decide +kernel))
theorem fg_498 : (Jvm.Cond.arrayOf (Jvm.Term.field (Jvm.Term.string "SnowRecorder$TextReader" (149 : Nat)) "java/lang/String" "value" "[B") Jvm.ClassFile.FieldType.byte) ∈ flatC (Jvm.Cond.and given_1 narrow_1) := List.mem_of_getElem? (i := 498) (by decide +kernel)
theorem fg_499 : (Jvm.Cond.eq (Jvm.Term.length (Jvm.Term.field (Jvm.Term.string "SnowRecorder$TextReader" (149 : Nat)) "java/lang/String" "value" "[B")) (Jvm.Term.int (4 : Int32))) ∈ flatC (Jvm.Cond.and given_1 narrow_1) := List.mem_of_getElem? (i := 499) (by decide +kernel)
theorem fg_500 : (Jvm.Cond.eq (Jvm.Term.elem (Jvm.Term.field (Jvm.Term.string "SnowRecorder$TextReader" (149 : Nat)) "java/lang/String" "value" "[B") (Jvm.Term.int (0 : Int32))) (Jvm.Term.int (115 : Int32))) ∈ flatC (Jvm.Cond.and given_1 narrow_1) := List.mem_of_getElem? (i := 500) (by decide +kernel)
theorem fg_501 : (Jvm.Cond.eq (Jvm.Term.elem (Jvm.Term.field (Jvm.Term.string "SnowRecorder$TextReader" (149 : Nat)) "java/lang/String" "value" "[B") (Jvm.Term.int (1 : Int32))) (Jvm.Term.int (110 : Int32))) ∈ flatC (Jvm.Cond.and given_1 narrow_1) := List.mem_of_getElem? (i := 501) (by decide +kernel)
theorem fg_502 : (Jvm.Cond.eq (Jvm.Term.elem (Jvm.Term.field (Jvm.Term.string "SnowRecorder$TextReader" (149 : Nat)) "java/lang/String" "value" "[B") (Jvm.Term.int (2 : Int32))) (Jvm.Term.int (111 : Int32))) ∈ flatC (Jvm.Cond.and given_1 narrow_1) := List.mem_of_getElem? (i := 502) (by decide +kernel)
theorem fg_503 : (Jvm.Cond.eq (Jvm.Term.elem (Jvm.Term.field (Jvm.Term.string "SnowRecorder$TextReader" (149 : Nat)) "java/lang/String" "value" "[B") (Jvm.Term.int (3 : Int32))) (Jvm.Term.int (119 : Int32))) ∈ flatC (Jvm.Cond.and given_1 narrow_1) := List.mem_of_getElem? (i := 503) (by decide +kernel)
theorem fg_496 : (Jvm.Cond.exactly (Jvm.Term.string "SnowRecorder$TextReader" (149 : Nat)) "java/lang/String") ∈ flatC (Jvm.Cond.and given_1 narrow_1) := List.mem_of_getElem? (i := 496) (by decide +kernel)
theorem fg_497 : (Jvm.Cond.eq (Jvm.Term.field (Jvm.Term.string "SnowRecorder$TextReader" (149 : Nat)) "java/lang/String" "coder" "B") (Jvm.Term.int (0 : Int32))) ∈ flatC (Jvm.Cond.and given_1 narrow_1) := List.mem_of_getElem? (i := 497) (by decide +kernel)
theorem fw_852 : (Jvm.Cond.stringRef "SnowRecorder$TextReader" (149 : Nat) "snow") ∈ lw_tbl := tb_4 (List.mem_of_getElem? (i := 132) (by decide +kernel))
theorem fg_506 : (Jvm.Cond.arrayOf (Jvm.Term.field (Jvm.Term.string "SnowRecorder$TextReader" (151 : Nat)) "java/lang/String" "value" "[B") Jvm.ClassFile.FieldType.byte) ∈ flatC (Jvm.Cond.and given_1 narrow_1) := List.mem_of_getElem? (i := 506) (by decide +kernel)
theorem fg_507 : (Jvm.Cond.eq (Jvm.Term.length (Jvm.Term.field (Jvm.Term.string "SnowRecorder$TextReader" (151 : Nat)) "java/lang/String" "value" "[B")) (Jvm.Term.int (4 : Int32))) ∈ flatC (Jvm.Cond.and given_1 narrow_1) := List.mem_of_getElem? (i := 507) (by decide +kernel)
theorem fg_508 : (Jvm.Cond.eq (Jvm.Term.elem (Jvm.Term.field (Jvm.Term.string "SnowRecorder$TextReader" (151 : Nat)) "java/lang/String" "value" "[B") (Jvm.Term.int (0 : Int32))) (Jvm.Term.int (114 : Int32))) ∈ flatC (Jvm.Cond.and given_1 narrow_1) := List.mem_of_getElem? (i := 508) (by decide +kernel)
end
section
-- 9o1b.given.lean.txt
theorem fg_509 : (Jvm.Cond.eq (Jvm.Term.elem (Jvm.Term.field (Jvm.Term.string "SnowRecorder$TextReader" (151 : Nat)) "java/lang/String" "value" "[B") (Jvm.Term.int (1 : Int32))) (Jvm.Term.int (97 : Int32))) ∈ flatC (Jvm.Cond.and given_1 narrow_1) := List.mem_of_getElem? (i := 509) (by decide +kernel)
theorem fg_510 : (Jvm.Cond.eq (Jvm.Term.elem (Jvm.Term.field (Jvm.Term.string "SnowRecorder$TextReader" (151 : Nat)) "java/lang/String" "value" "[B") (Jvm.Term.int (2 : Int32))) (Jvm.Term.int (105 : Int32))) ∈ flatC (Jvm.Cond.and given_1 narrow_1) := List.mem_of_getElem? (i := 510) (by decide +kernel)
theorem fg_511 : (Jvm.Cond.eq (Jvm.Term.elem (Jvm.Term.field (Jvm.Term.string "SnowRecorder$TextReader" (151 : Nat)) "java/lang/String" "value" "[B") (Jvm.Term.int (3 : Int32))) (Jvm.Term.int (110 : Int32))) ∈ flatC (Jvm.Cond.and given_1 narrow_1) := List.mem_of_getElem? (i := 511) (by decide +kernel)
theorem fg_504 : (Jvm.Cond.exactly (Jvm.Term.string "SnowRecorder$TextReader" (151 : Nat)) "java/lang/String") ∈ flatC (Jvm.Cond.and given_1 narrow_1) := List.mem_of_getElem? (i := 504) (by decide +kernel)
theorem fg_505 : (Jvm.Cond.eq (Jvm.Term.field (Jvm.Term.string "SnowRecorder$TextReader" (151 : Nat)) "java/lang/String" "coder" "B") (Jvm.Term.int (0 : Int32))) ∈ flatC (Jvm.Cond.and given_1 narrow_1) := List.mem_of_getElem? (i := 505) (by decide +kernel)
theorem fw_853 : (Jvm.Cond.stringRef "SnowRecorder$TextReader" (151 : Nat) "rain") ∈ lw_tbl := tb_4 (List.mem_of_getElem? (i := 133) (by decide +kernel))
theorem fg_514 : (Jvm.Cond.arrayOf (Jvm.Term.field (Jvm.Term.string "SnowRecorder$TextReader" (153 : Nat)) "java/lang/String" "value" "[B") Jvm.ClassFile.FieldType.byte) ∈ flatC (Jvm.Cond.and given_1 narrow_1) := List.mem_of_getElem? (i := 514) (by decide +kernel)
theorem fg_515 : (Jvm.Cond.eq (Jvm.Term.length (Jvm.Term.field (Jvm.Term.string "SnowRecorder$TextReader" (153 : Nat)) "java/lang/String" "value" "[B")) (Jvm.Term.int (4 : Int32))) ∈ flatC (Jvm.Cond.and given_1 narrow_1) := List.mem_of_getElem? (i := 515) (by decide +kernel)
theorem fg_516 : (Jvm.Cond.eq (Jvm.Term.elem (Jvm.Term.field (Jvm.Term.string "SnowRecorder$TextReader" (153 : Nat)) "java/lang/String" "value" "[B") (Jvm.Term.int (0 : Int32))) (Jvm.Term.int (104 : Int32))) ∈ flatC (Jvm.Cond.and given_1 narrow_1) := List.mem_of_getElem? (i := 516) (by decide +kernel)
theorem fg_517 : (Jvm.Cond.eq (Jvm.Term.elem (Jvm.Term.field (Jvm.Term.string "SnowRecorder$TextReader" (153 : Nat)) "java/lang/String" "value" "[B") (Jvm.Term.int (1 : Int32))) (Jvm.Term.int (111 : Int32))) ∈ flatC (Jvm.Cond.and given_1 narrow_1) := List.mem_of_getElem? (i := 517) (by decide +kernel)
theorem fg_518 : (Jvm.Cond.eq (Jvm.Term.elem (Jvm.Term.field (Jvm.Term.string "SnowRecorder$TextReader" (153 : Nat)) "java/lang/String" "value" "[B") (Jvm.Term.int (2 : Int32))) (Jvm.Term.int (97 : Int32))) ∈ flatC (Jvm.Cond.and given_1 narrow_1) := List.mem_of_getElem? (i := 518) (by decide +kernel)
theorem fg_519 : (Jvm.Cond.eq (Jvm.Term.elem (Jvm.Term.field (Jvm.Term.string "SnowRecorder$TextReader" (153 : Nat)) "java/lang/String" "value" "[B") (Jvm.Term.int (3 : Int32))) (Jvm.Term.int (114 : Int32))) ∈ flatC (Jvm.Cond.and given_1 narrow_1) := List.mem_of_getElem? (i := 519) (by decide +kernel)
theorem fg_512 : (Jvm.Cond.exactly (Jvm.Term.string "SnowRecorder$TextReader" (153 : Nat)) "java/lang/String") ∈ flatC (Jvm.Cond.and given_1 narrow_1) := List.mem_of_getElem? (i := 512) (by decide +kernel)
theorem fg_513 : (Jvm.Cond.eq (Jvm.Term.field (Jvm.Term.string "SnowRecorder$TextReader" (153 : Nat)) "java/lang/String" "coder" "B") (Jvm.Term.int (0 : Int32))) ∈ flatC (Jvm.Cond.and given_1 narrow_1) := List.mem_of_getElem? (i := 513) (by decide +kernel)
theorem fw_854 : (Jvm.Cond.stringRef "SnowRecorder$TextReader" (153 : Nat) "hoar") ∈ lw_tbl := tb_4 (List.mem_of_getElem? (i := 134) (by decide +kernel))
theorem fg_523 : (Jvm.Cond.arrayOf (Jvm.Term.field (Jvm.Term.string "SnowRecorder$TextReader" (81 : Nat)) "java/lang/String" "value" "[B") Jvm.ClassFile.FieldType.byte) ∈ flatC (Jvm.Cond.and given_1 narrow_1) := List.mem_of_getElem? (i := 523) (by decide +kernel)
theorem fg_524 : (Jvm.Cond.eq (Jvm.Term.length (Jvm.Term.field (Jvm.Term.string "SnowRecorder$TextReader" (81 : Nat)) "java/lang/String" "value" "[B")) (Jvm.Term.int (6 : Int32))) ∈ flatC (Jvm.Cond.and given_1 narrow_1) := List.mem_of_getElem? (i := 524) (by decide +kernel)
theorem fg_525 : (Jvm.Cond.eq (Jvm.Term.elem (Jvm.Term.field (Jvm.Term.string "SnowRecorder$TextReader" (81 : Nat)) "java/lang/String" "value" "[B") (Jvm.Term.int (0 : Int32))) (Jvm.Term.int (115 : Int32))) ∈ flatC (Jvm.Cond.and given_1 narrow_1) := List.mem_of_getElem? (i := 525) (by decide +kernel)
theorem fg_526 : (Jvm.Cond.eq (Jvm.Term.elem (Jvm.Term.field (Jvm.Term.string "SnowRecorder$TextReader" (81 : Nat)) "java/lang/String" "value" "[B") (Jvm.Term.int (1 : Int32))) (Jvm.Term.int (116 : Int32))) ∈ flatC (Jvm.Cond.and given_1 narrow_1) := List.mem_of_getElem? (i := 526) (by decide +kernel)
theorem fg_527 : (Jvm.Cond.eq (Jvm.Term.elem (Jvm.Term.field (Jvm.Term.string "SnowRecorder$TextReader" (81 : Nat)) "java/lang/String" "value" "[B") (Jvm.Term.int (2 : Int32))) (Jvm.Term.int (114 : Int32))) ∈ flatC (Jvm.Cond.and given_1 narrow_1) := List.mem_of_getElem? (i := 527) (by decide +kernel)
theorem fg_528 : (Jvm.Cond.eq (Jvm.Term.elem (Jvm.Term.field (Jvm.Term.string "SnowRecorder$TextReader" (81 : Nat)) "java/lang/String" "value" "[B") (Jvm.Term.int (3 : Int32))) (Jvm.Term.int (111 : Int32))) ∈ flatC (Jvm.Cond.and given_1 narrow_1) := List.mem_of_getElem? (i := 528) (by decide +kernel)
theorem fg_529 : (Jvm.Cond.eq (Jvm.Term.elem (Jvm.Term.field (Jvm.Term.string "SnowRecorder$TextReader" (81 : Nat)) "java/lang/String" "value" "[B") (Jvm.Term.int (4 : Int32))) (Jvm.Term.int (110 : Int32))) ∈ flatC (Jvm.Cond.and given_1 narrow_1) := List.mem_of_getElem? (i := 529) (by decide +kernel)
theorem fg_530 : (Jvm.Cond.eq (Jvm.Term.elem (Jvm.Term.field (Jvm.Term.string "SnowRecorder$TextReader" (81 : Nat)) "java/lang/String" "value" "[B") (Jvm.Term.int (5 : Int32))) (Jvm.Term.int (103 : Int32))) ∈ flatC (Jvm.Cond.and given_1 narrow_1) := List.mem_of_getElem? (i := 530) (by decide +kernel)
theorem fg_521 : (Jvm.Cond.exactly (Jvm.Term.string "SnowRecorder$TextReader" (81 : Nat)) "java/lang/String") ∈ flatC (Jvm.Cond.and given_1 narrow_1) := List.mem_of_getElem? (i := 521) (by decide +kernel)
theorem fg_522 : (Jvm.Cond.eq (Jvm.Term.field (Jvm.Term.string "SnowRecorder$TextReader" (81 : Nat)) "java/lang/String" "coder" "B") (Jvm.Term.int (0 : Int32))) ∈ flatC (Jvm.Cond.and given_1 narrow_1) := List.mem_of_getElem? (i := 522) (by decide +kernel)
theorem fw_855 : (Jvm.Cond.stringRef "SnowRecorder$TextReader" (81 : Nat) "strong") ∈ lw_tbl := tb_4 (List.mem_of_getElem? (i := 135) (by decide +kernel))
theorem fg_533 : (Jvm.Cond.arrayOf (Jvm.Term.field (Jvm.Term.string "SnowRecorder$TextReader" (87 : Nat)) "java/lang/String" "value" "[B") Jvm.ClassFile.FieldType.byte) ∈ flatC (Jvm.Cond.and given_1 narrow_1) := List.mem_of_getElem? (i := 533) (by decide +kernel)
theorem fg_534 : (Jvm.Cond.eq (Jvm.Term.length (Jvm.Term.field (Jvm.Term.string "SnowRecorder$TextReader" (87 : Nat)) "java/lang/String" "value" "[B")) (Jvm.Term.int (5 : Int32))) ∈ flatC (Jvm.Cond.and given_1 narrow_1) := List.mem_of_getElem? (i := 534) (by decide +kernel)
theorem fg_535 : (Jvm.Cond.eq (Jvm.Term.elem (Jvm.Term.field (Jvm.Term.string "SnowRecorder$TextReader" (87 : Nat)) "java/lang/String" "value" "[B") (Jvm.Term.int (0 : Int32))) (Jvm.Term.int (104 : Int32))) ∈ flatC (Jvm.Cond.and given_1 narrow_1) := List.mem_of_getElem? (i := 535) (by decide +kernel)
theorem fg_536 : (Jvm.Cond.eq (Jvm.Term.elem (Jvm.Term.field (Jvm.Term.string "SnowRecorder$TextReader" (87 : Nat)) "java/lang/String" "value" "[B") (Jvm.Term.int (1 : Int32))) (Jvm.Term.int (111 : Int32))) ∈ flatC (Jvm.Cond.and given_1 narrow_1) := List.mem_of_getElem? (i := 536) (by decide +kernel)
theorem fg_537 : (Jvm.Cond.eq (Jvm.Term.elem (Jvm.Term.field (Jvm.Term.string "SnowRecorder$TextReader" (87 : Nat)) "java/lang/String" "value" "[B") (Jvm.Term.int (2 : Int32))) (Jvm.Term.int (108 : Int32))) ∈ flatC (Jvm.Cond.and given_1 narrow_1) := List.mem_of_getElem? (i := 537) (by decide +kernel)
theorem fg_538 : (Jvm.Cond.eq (Jvm.Term.elem (Jvm.Term.field (Jvm.Term.string "SnowRecorder$TextReader" (87 : Nat)) "java/lang/String" "value" "[B") (Jvm.Term.int (3 : Int32))) (Jvm.Term.int (100 : Int32))) ∈ flatC (Jvm.Cond.and given_1 narrow_1) := List.mem_of_getElem? (i := 538) (by decide +kernel)
theorem fg_539 : (Jvm.Cond.eq (Jvm.Term.elem (Jvm.Term.field (Jvm.Term.string "SnowRecorder$TextReader" (87 : Nat)) "java/lang/String" "value" "[B") (Jvm.Term.int (4 : Int32))) (Jvm.Term.int (115 : Int32))) ∈ flatC (Jvm.Cond.and given_1 narrow_1) := List.mem_of_getElem? (i := 539) (by decide +kernel)
theorem fg_531 : (Jvm.Cond.exactly (Jvm.Term.string "SnowRecorder$TextReader" (87 : Nat)) "java/lang/String") ∈ flatC (Jvm.Cond.and given_1 narrow_1) := List.mem_of_getElem? (i := 531) (by decide +kernel)
theorem fg_532 : (Jvm.Cond.eq (Jvm.Term.field (Jvm.Term.string "SnowRecorder$TextReader" (87 : Nat)) "java/lang/String" "coder" "B") (Jvm.Term.int (0 : Int32))) ∈ flatC (Jvm.Cond.and given_1 narrow_1) := List.mem_of_getElem? (i := 532) (by decide +kernel)
theorem fw_860 : (Jvm.Cond.stringRef "SnowRecorder$TextReader" (87 : Nat) "holds") ∈ lw_tbl := tb_4 (List.mem_of_getElem? (i := 140) (by decide +kernel))
theorem fg_542 : (Jvm.Cond.arrayOf (Jvm.Term.field (Jvm.Term.string "SnowRecorder$TextReader" (89 : Nat)) "java/lang/String" "value" "[B") Jvm.ClassFile.FieldType.byte) ∈ flatC (Jvm.Cond.and given_1 narrow_1) := List.mem_of_getElem? (i := 542) (by decide +kernel)
theorem fg_543 : (Jvm.Cond.eq (Jvm.Term.length (Jvm.Term.field (Jvm.Term.string "SnowRecorder$TextReader" (89 : Nat)) "java/lang/String" "value" "[B")) (Jvm.Term.int (5 : Int32))) ∈ flatC (Jvm.Cond.and given_1 narrow_1) := List.mem_of_getElem? (i := 543) (by decide +kernel)
theorem fg_544 : (Jvm.Cond.eq (Jvm.Term.elem (Jvm.Term.field (Jvm.Term.string "SnowRecorder$TextReader" (89 : Nat)) "java/lang/String" "value" "[B") (Jvm.Term.int (0 : Int32))) (Jvm.Term.int (115 : Int32))) ∈ flatC (Jvm.Cond.and given_1 narrow_1) := List.mem_of_getElem? (i := 544) (by decide +kernel)
theorem fg_545 : (Jvm.Cond.eq (Jvm.Term.elem (Jvm.Term.field (Jvm.Term.string "SnowRecorder$TextReader" (89 : Nat)) "java/lang/String" "value" "[B") (Jvm.Term.int (1 : Int32))) (Jvm.Term.int (116 : Int32))) ∈ flatC (Jvm.Cond.and given_1 narrow_1) := List.mem_of_getElem? (i := 545) (by decide +kernel)
theorem fg_546 : (Jvm.Cond.eq (Jvm.Term.elem (Jvm.Term.field (Jvm.Term.string "SnowRecorder$TextReader" (89 : Nat)) "java/lang/String" "value" "[B") (Jvm.Term.int (2 : Int32))) (Jvm.Term.int (105 : Int32))) ∈ flatC (Jvm.Cond.and given_1 narrow_1) := List.mem_of_getElem? (i := 546) (by decide +kernel)
theorem fg_547 : (Jvm.Cond.eq (Jvm.Term.elem (Jvm.Term.field (Jvm.Term.string "SnowRecorder$TextReader" (89 : Nat)) "java/lang/String" "value" "[B") (Jvm.Term.int (3 : Int32))) (Jvm.Term.int (102 : Int32))) ∈ flatC (Jvm.Cond.and given_1 narrow_1) := List.mem_of_getElem? (i := 547) (by decide +kernel)
theorem fg_548 : (Jvm.Cond.eq (Jvm.Term.elem (Jvm.Term.field (Jvm.Term.string "SnowRecorder$TextReader" (89 : Nat)) "java/lang/String" "value" "[B") (Jvm.Term.int (4 : Int32))) (Jvm.Term.int (102 : Int32))) ∈ flatC (Jvm.Cond.and given_1 narrow_1) := List.mem_of_getElem? (i := 548) (by decide +kernel)
theorem fg_540 : (Jvm.Cond.exactly (Jvm.Term.string "SnowRecorder$TextReader" (89 : Nat)) "java/lang/String") ∈ flatC (Jvm.Cond.and given_1 narrow_1) := List.mem_of_getElem? (i := 540) (by decide +kernel)
theorem fg_541 : (Jvm.Cond.eq (Jvm.Term.field (Jvm.Term.string "SnowRecorder$TextReader" (89 : Nat)) "java/lang/String" "coder" "B") (Jvm.Term.int (0 : Int32))) ∈ flatC (Jvm.Cond.and given_1 narrow_1) := List.mem_of_getElem? (i := 541) (by decide +kernel)
theorem fw_861 : (Jvm.Cond.stringRef "SnowRecorder$TextReader" (89 : Nat) "stiff") ∈ lw_tbl := tb_4 (List.mem_of_getElem? (i := 141) (by decide +kernel))
theorem fg_744 : (Jvm.Cond.arrayOf (Jvm.Term.field (Jvm.Term.string "SnowRecorder" (487 : Nat)) "java/lang/String" "value" "[B") Jvm.ClassFile.FieldType.byte) ∈ flatC (Jvm.Cond.and given_1 narrow_1) := List.mem_of_getElem? (i := 744) (by decide +kernel)
theorem fg_745 : (Jvm.Cond.eq (Jvm.Term.length (Jvm.Term.field (Jvm.Term.string "SnowRecorder" (487 : Nat)) "java/lang/String" "value" "[B")) (Jvm.Term.int (4 : Int32))) ∈ flatC (Jvm.Cond.and given_1 narrow_1) := List.mem_of_getElem? (i := 745) (by decide +kernel)
theorem fg_746 : (Jvm.Cond.eq (Jvm.Term.elem (Jvm.Term.field (Jvm.Term.string "SnowRecorder" (487 : Nat)) "java/lang/String" "value" "[B") (Jvm.Term.int (0 : Int32))) (Jvm.Term.int (32 : Int32))) ∈ flatC (Jvm.Cond.and given_1 narrow_1) := List.mem_of_getElem? (i := 746) (by decide +kernel)
theorem fg_747 : (Jvm.Cond.eq (Jvm.Term.elem (Jvm.Term.field (Jvm.Term.string "SnowRecorder" (487 : Nat)) "java/lang/String" "value" "[B") (Jvm.Term.int (1 : Int32))) (Jvm.Term.int (111 : Int32))) ∈ flatC (Jvm.Cond.and given_1 narrow_1) := List.mem_of_getElem? (i := 747) (by decide +kernel)
theorem fg_748 : (Jvm.Cond.eq (Jvm.Term.elem (Jvm.Term.field (Jvm.Term.string "SnowRecorder" (487 : Nat)) "java/lang/String" "value" "[B") (Jvm.Term.int (2 : Int32))) (Jvm.Term.int (102 : Int32))) ∈ flatC (Jvm.Cond.and given_1 narrow_1) := List.mem_of_getElem? (i := 748) (by decide +kernel)
theorem fg_749 : (Jvm.Cond.eq (Jvm.Term.elem (Jvm.Term.field (Jvm.Term.string "SnowRecorder" (487 : Nat)) "java/lang/String" "value" "[B") (Jvm.Term.int (3 : Int32))) (Jvm.Term.int (32 : Int32))) ∈ flatC (Jvm.Cond.and given_1 narrow_1) := List.mem_of_getElem? (i := 749) (by decide +kernel)
theorem fg_742 : (Jvm.Cond.exactly (Jvm.Term.string "SnowRecorder" (487 : Nat)) "java/lang/String") ∈ flatC (Jvm.Cond.and given_1 narrow_1) := List.mem_of_getElem? (i := 742) (by decide +kernel)
theorem fg_743 : (Jvm.Cond.eq (Jvm.Term.field (Jvm.Term.string "SnowRecorder" (487 : Nat)) "java/lang/String" "coder" "B") (Jvm.Term.int (0 : Int32))) ∈ flatC (Jvm.Cond.and given_1 narrow_1) := List.mem_of_getElem? (i := 743) (by decide +kernel)
theorem fw_1197 : (Jvm.Cond.stringRef "SnowRecorder" (487 : Nat) " of ") ∈ lw_tbl := tb_5 (List.mem_of_getElem? (i := 237) (by decide +kernel))
theorem fg_752 : (Jvm.Cond.arrayOf (Jvm.Term.field (Jvm.Term.string "SnowRecorder" (489 : Nat)) "java/lang/String" "value" "[B") Jvm.ClassFile.FieldType.byte) ∈ flatC (Jvm.Cond.and given_1 narrow_1) := List.mem_of_getElem? (i := 752) (by decide +kernel)
theorem fg_753 : (Jvm.Cond.eq (Jvm.Term.length (Jvm.Term.field (Jvm.Term.string "SnowRecorder" (489 : Nat)) "java/lang/String" "value" "[B")) (Jvm.Term.int (5 : Int32))) ∈ flatC (Jvm.Cond.and given_1 narrow_1) := List.mem_of_getElem? (i := 753) (by decide +kernel)
theorem fg_754 : (Jvm.Cond.eq (Jvm.Term.elem (Jvm.Term.field (Jvm.Term.string "SnowRecorder" (489 : Nat)) "java/lang/String" "value" "[B") (Jvm.Term.int (0 : Int32))) (Jvm.Term.int (32 : Int32))) ∈ flatC (Jvm.Cond.and given_1 narrow_1) := List.mem_of_getElem? (i := 754) (by decide +kernel)
theorem fg_755 : (Jvm.Cond.eq (Jvm.Term.elem (Jvm.Term.field (Jvm.Term.string "SnowRecorder" (489 : Nat)) "java/lang/String" "value" "[B") (Jvm.Term.int (1 : Int32))) (Jvm.Term.int (119 : Int32))) ∈ flatC (Jvm.Cond.and given_1 narrow_1) := List.mem_of_getElem? (i := 755) (by decide +kernel)
theorem fg_756 : (Jvm.Cond.eq (Jvm.Term.elem (Jvm.Term.field (Jvm.Term.string "SnowRecorder" (489 : Nat)) "java/lang/String" "value" "[B") (Jvm.Term.int (2 : Int32))) (Jvm.Term.int (101 : Int32))) ∈ flatC (Jvm.Cond.and given_1 narrow_1) := List.mem_of_getElem? (i := 756) (by decide +kernel)
theorem fg_757 : (Jvm.Cond.eq (Jvm.Term.elem (Jvm.Term.field (Jvm.Term.string "SnowRecorder" (489 : Nat)) "java/lang/String" "value" "[B") (Jvm.Term.int (3 : Int32))) (Jvm.Term.int (116 : Int32))) ∈ flatC (Jvm.Cond.and given_1 narrow_1) := List.mem_of_getElem? (i := 757) (by decide +kernel)
theorem fg_758 : (Jvm.Cond.eq (Jvm.Term.elem (Jvm.Term.field (Jvm.Term.string "SnowRecorder" (489 : Nat)) "java/lang/String" "value" "[B") (Jvm.Term.int (4 : Int32))) (Jvm.Term.int (32 : Int32))) ∈ flatC (Jvm.Cond.and given_1 narrow_1) := List.mem_of_getElem? (i := 758) (by decide +kernel)
theorem fg_750 : (Jvm.Cond.exactly (Jvm.Term.string "SnowRecorder" (489 : Nat)) "java/lang/String") ∈ flatC (Jvm.Cond.and given_1 narrow_1) := List.mem_of_getElem? (i := 750) (by decide +kernel)
theorem fg_751 : (Jvm.Cond.eq (Jvm.Term.field (Jvm.Term.string "SnowRecorder" (489 : Nat)) "java/lang/String" "coder" "B") (Jvm.Term.int (0 : Int32))) ∈ flatC (Jvm.Cond.and given_1 narrow_1) := List.mem_of_getElem? (i := 751) (by decide +kernel)
theorem fw_1198 : (Jvm.Cond.stringRef "SnowRecorder" (489 : Nat) " wet ") ∈ lw_tbl := tb_5 (List.mem_of_getElem? (i := 238) (by decide +kernel))
theorem fg_761 : (Jvm.Cond.arrayOf (Jvm.Term.field (Jvm.Term.string "SnowRecorder" (491 : Nat)) "java/lang/String" "value" "[B") Jvm.ClassFile.FieldType.byte) ∈ flatC (Jvm.Cond.and given_1 narrow_1) := List.mem_of_getElem? (i := 761) (by decide +kernel)
theorem fg_762 : (Jvm.Cond.eq (Jvm.Term.length (Jvm.Term.field (Jvm.Term.string "SnowRecorder" (491 : Nat)) "java/lang/String" "value" "[B")) (Jvm.Term.int (4 : Int32))) ∈ flatC (Jvm.Cond.and given_1 narrow_1) := List.mem_of_getElem? (i := 762) (by decide +kernel)
theorem fg_763 : (Jvm.Cond.eq (Jvm.Term.elem (Jvm.Term.field (Jvm.Term.string "SnowRecorder" (491 : Nat)) "java/lang/String" "value" "[B") (Jvm.Term.int (0 : Int32))) (Jvm.Term.int (32 : Int32))) ∈ flatC (Jvm.Cond.and given_1 narrow_1) := List.mem_of_getElem? (i := 763) (by decide +kernel)
theorem fg_764 : (Jvm.Cond.eq (Jvm.Term.elem (Jvm.Term.field (Jvm.Term.string "SnowRecorder" (491 : Nat)) "java/lang/String" "value" "[B") (Jvm.Term.int (1 : Int32))) (Jvm.Term.int (105 : Int32))) ∈ flatC (Jvm.Cond.and given_1 narrow_1) := List.mem_of_getElem? (i := 764) (by decide +kernel)
theorem fg_765 : (Jvm.Cond.eq (Jvm.Term.elem (Jvm.Term.field (Jvm.Term.string "SnowRecorder" (491 : Nat)) "java/lang/String" "value" "[B") (Jvm.Term.int (2 : Int32))) (Jvm.Term.int (110 : Int32))) ∈ flatC (Jvm.Cond.and given_1 narrow_1) := List.mem_of_getElem? (i := 765) (by decide +kernel)
theorem fg_766 : (Jvm.Cond.eq (Jvm.Term.elem (Jvm.Term.field (Jvm.Term.string "SnowRecorder" (491 : Nat)) "java/lang/String" "value" "[B") (Jvm.Term.int (3 : Int32))) (Jvm.Term.int (32 : Int32))) ∈ flatC (Jvm.Cond.and given_1 narrow_1) := List.mem_of_getElem? (i := 766) (by decide +kernel)
theorem fg_759 : (Jvm.Cond.exactly (Jvm.Term.string "SnowRecorder" (491 : Nat)) "java/lang/String") ∈ flatC (Jvm.Cond.and given_1 narrow_1) := List.mem_of_getElem? (i := 759) (by decide +kernel)
theorem fg_760 : (Jvm.Cond.eq (Jvm.Term.field (Jvm.Term.string "SnowRecorder" (491 : Nat)) "java/lang/String" "coder" "B") (Jvm.Term.int (0 : Int32))) ∈ flatC (Jvm.Cond.and given_1 narrow_1) := List.mem_of_getElem? (i := 760) (by decide +kernel)
theorem fw_1199 : (Jvm.Cond.stringRef "SnowRecorder" (491 : Nat) " in ") ∈ lw_tbl := tb_5 (List.mem_of_getElem? (i := 239) (by decide +kernel))
theorem fg_769 : (Jvm.Cond.arrayOf (Jvm.Term.field (Jvm.Term.string "SnowRecorder" (493 : Nat)) "java/lang/String" "value" "[B") Jvm.ClassFile.FieldType.byte) ∈ flatC (Jvm.Cond.and given_1 narrow_1) := List.mem_of_getElem? (i := 769) (by decide +kernel)
theorem fg_770 : (Jvm.Cond.eq (Jvm.Term.length (Jvm.Term.field (Jvm.Term.string "SnowRecorder" (493 : Nat)) "java/lang/String" "value" "[B")) (Jvm.Term.int (4 : Int32))) ∈ flatC (Jvm.Cond.and given_1 narrow_1) := List.mem_of_getElem? (i := 770) (by decide +kernel)
theorem fg_771 : (Jvm.Cond.eq (Jvm.Term.elem (Jvm.Term.field (Jvm.Term.string "SnowRecorder" (493 : Nat)) "java/lang/String" "value" "[B") (Jvm.Term.int (0 : Int32))) (Jvm.Term.int (32 : Int32))) ∈ flatC (Jvm.Cond.and given_1 narrow_1) := List.mem_of_getElem? (i := 771) (by decide +kernel)
theorem fg_772 : (Jvm.Cond.eq (Jvm.Term.elem (Jvm.Term.field (Jvm.Term.string "SnowRecorder" (493 : Nat)) "java/lang/String" "value" "[B") (Jvm.Term.int (1 : Int32))) (Jvm.Term.int (97 : Int32))) ∈ flatC (Jvm.Cond.and given_1 narrow_1) := List.mem_of_getElem? (i := 772) (by decide +kernel)
theorem fg_773 : (Jvm.Cond.eq (Jvm.Term.elem (Jvm.Term.field (Jvm.Term.string "SnowRecorder" (493 : Nat)) "java/lang/String" "value" "[B") (Jvm.Term.int (2 : Int32))) (Jvm.Term.int (116 : Int32))) ∈ flatC (Jvm.Cond.and given_1 narrow_1) := List.mem_of_getElem? (i := 773) (by decide +kernel)
theorem fg_774 : (Jvm.Cond.eq (Jvm.Term.elem (Jvm.Term.field (Jvm.Term.string "SnowRecorder" (493 : Nat)) "java/lang/String" "value" "[B") (Jvm.Term.int (3 : Int32))) (Jvm.Term.int (32 : Int32))) ∈ flatC (Jvm.Cond.and given_1 narrow_1) := List.mem_of_getElem? (i := 774) (by decide +kernel)
theorem fg_767 : (Jvm.Cond.exactly (Jvm.Term.string "SnowRecorder" (493 : Nat)) "java/lang/String") ∈ flatC (Jvm.Cond.and given_1 narrow_1) := List.mem_of_getElem? (i := 767) (by decide +kernel)
theorem fg_768 : (Jvm.Cond.eq (Jvm.Term.field (Jvm.Term.string "SnowRecorder" (493 : Nat)) "java/lang/String" "coder" "B") (Jvm.Term.int (0 : Int32))) ∈ flatC (Jvm.Cond.and given_1 narrow_1) := List.mem_of_getElem? (i := 768) (by decide +kernel)
theorem fw_1200 : (Jvm.Cond.stringRef "SnowRecorder" (493 : Nat) " at ") ∈ lw_tbl := tb_6 (List.mem_of_getElem? (i := 0) (by decide +kernel))
theorem fg_236 : (Jvm.Cond.arrayOf (Jvm.Term.static "SnowRecorderModel" "KNOWN" "[B") Jvm.ClassFile.FieldType.byte) ∈ flatC (Jvm.Cond.and given_1 narrow_1) := List.mem_of_getElem? (i := 236) (by decide +kernel)
theorem fg_237 : (Jvm.Cond.eq (Jvm.Term.length (Jvm.Term.static "SnowRecorderModel" "KNOWN" "[B")) (Jvm.Term.int (78 : Int32))) ∈ flatC (Jvm.Cond.and given_1 narrow_1) := List.mem_of_getElem? (i := 237) (by decide +kernel)
theorem fg_238 : (Jvm.Cond.eq (Jvm.Term.elem (Jvm.Term.static "SnowRecorderModel" "KNOWN" "[B") (Jvm.Term.int (0 : Int32))) (Jvm.Term.int (115 : Int32))) ∈ flatC (Jvm.Cond.and given_1 narrow_1) := List.mem_of_getElem? (i := 238) (by decide +kernel)
theorem fg_239 : (Jvm.Cond.eq (Jvm.Term.elem (Jvm.Term.static "SnowRecorderModel" "KNOWN" "[B") (Jvm.Term.int (1 : Int32))) (Jvm.Term.int (108 : Int32))) ∈ flatC (Jvm.Cond.and given_1 narrow_1) := List.mem_of_getElem? (i := 239) (by decide +kernel)
theorem fg_240 : (Jvm.Cond.eq (Jvm.Term.elem (Jvm.Term.static "SnowRecorderModel" "KNOWN" "[B") (Jvm.Term.int (2 : Int32))) (Jvm.Term.int (111 : Int32))) ∈ flatC (Jvm.Cond.and given_1 narrow_1) := List.mem_of_getElem? (i := 240) (by decide +kernel)
theorem fg_241 : (Jvm.Cond.eq (Jvm.Term.elem (Jvm.Term.static "SnowRecorderModel" "KNOWN" "[B") (Jvm.Term.int (3 : Int32))) (Jvm.Term.int (112 : Int32))) ∈ flatC (Jvm.Cond.and given_1 narrow_1) := List.mem_of_getElem? (i := 241) (by decide +kernel)
theorem fg_242 : (Jvm.Cond.eq (Jvm.Term.elem (Jvm.Term.static "SnowRecorderModel" "KNOWN" "[B") (Jvm.Term.int (4 : Int32))) (Jvm.Term.int (101 : Int32))) ∈ flatC (Jvm.Cond.and given_1 narrow_1) := List.mem_of_getElem? (i := 242) (by decide +kernel)
theorem fg_243 : (Jvm.Cond.eq (Jvm.Term.elem (Jvm.Term.static "SnowRecorderModel" "KNOWN" "[B") (Jvm.Term.int (5 : Int32))) (Jvm.Term.int (32 : Int32))) ∈ flatC (Jvm.Cond.and given_1 narrow_1) := List.mem_of_getElem? (i := 243) (by decide +kernel)
theorem fg_244 : (Jvm.Cond.eq (Jvm.Term.elem (Jvm.Term.static "SnowRecorderModel" "KNOWN" "[B") (Jvm.Term.int (6 : Int32))) (Jvm.Term.int (108 : Int32))) ∈ flatC (Jvm.Cond.and given_1 narrow_1) := List.mem_of_getElem? (i := 244) (by decide +kernel)
theorem fg_245 : (Jvm.Cond.eq (Jvm.Term.elem (Jvm.Term.static "SnowRecorderModel" "KNOWN" "[B") (Jvm.Term.int (7 : Int32))) (Jvm.Term.int (97 : Int32))) ∈ flatC (Jvm.Cond.and given_1 narrow_1) := List.mem_of_getElem? (i := 245) (by decide +kernel)
theorem fg_246 : (Jvm.Cond.eq (Jvm.Term.elem (Jvm.Term.static "SnowRecorderModel" "KNOWN" "[B") (Jvm.Term.int (8 : Int32))) (Jvm.Term.int (121 : Int32))) ∈ flatC (Jvm.Cond.and given_1 narrow_1) := List.mem_of_getElem? (i := 246) (by decide +kernel)
theorem fg_247 : (Jvm.Cond.eq (Jvm.Term.elem (Jvm.Term.static "SnowRecorderModel" "KNOWN" "[B") (Jvm.Term.int (9 : Int32))) (Jvm.Term.int (101 : Int32))) ∈ flatC (Jvm.Cond.and given_1 narrow_1) := List.mem_of_getElem? (i := 247) (by decide +kernel)
theorem fg_248 : (Jvm.Cond.eq (Jvm.Term.elem (Jvm.Term.static "SnowRecorderModel" "KNOWN" "[B") (Jvm.Term.int (10 : Int32))) (Jvm.Term.int (114 : Int32))) ∈ flatC (Jvm.Cond.and given_1 narrow_1) := List.mem_of_getElem? (i := 248) (by decide +kernel)
theorem fg_249 : (Jvm.Cond.eq (Jvm.Term.elem (Jvm.Term.static "SnowRecorderModel" "KNOWN" "[B") (Jvm.Term.int (11 : Int32))) (Jvm.Term.int (32 : Int32))) ∈ flatC (Jvm.Cond.and given_1 narrow_1) := List.mem_of_getElem? (i := 249) (by decide +kernel)
theorem fg_250 : (Jvm.Cond.eq (Jvm.Term.elem (Jvm.Term.static "SnowRecorderModel" "KNOWN" "[B") (Jvm.Term.int (12 : Int32))) (Jvm.Term.int (104 : Int32))) ∈ flatC (Jvm.Cond.and given_1 narrow_1) := List.mem_of_getElem? (i := 250) (by decide +kernel)
theorem fg_251 : (Jvm.Cond.eq (Jvm.Term.elem (Jvm.Term.static "SnowRecorderModel" "KNOWN" "[B") (Jvm.Term.int (13 : Int32))) (Jvm.Term.int (111 : Int32))) ∈ flatC (Jvm.Cond.and given_1 narrow_1) := List.mem_of_getElem? (i := 251) (by decide +kernel)
theorem fg_252 : (Jvm.Cond.eq (Jvm.Term.elem (Jvm.Term.static "SnowRecorderModel" "KNOWN" "[B") (Jvm.Term.int (14 : Int32))) (Jvm.Term.int (117 : Int32))) ∈ flatC (Jvm.Cond.and given_1 narrow_1) := List.mem_of_getElem? (i := 252) (by decide +kernel)
theorem fg_253 : (Jvm.Cond.eq (Jvm.Term.elem (Jvm.Term.static "SnowRecorderModel" "KNOWN" "[B") (Jvm.Term.int (15 : Int32))) (Jvm.Term.int (114 : Int32))) ∈ flatC (Jvm.Cond.and given_1 narrow_1) := List.mem_of_getElem? (i := 253) (by decide +kernel)
theorem fg_254 : (Jvm.Cond.eq (Jvm.Term.elem (Jvm.Term.static "SnowRecorderModel" "KNOWN" "[B") (Jvm.Term.int (16 : Int32))) (Jvm.Term.int (32 : Int32))) ∈ flatC (Jvm.Cond.and given_1 narrow_1) := List.mem_of_getElem? (i := 254) (by decide +kernel)
theorem fg_255 : (Jvm.Cond.eq (Jvm.Term.elem (Jvm.Term.static "SnowRecorderModel" "KNOWN" "[B") (Jvm.Term.int (17 : Int32))) (Jvm.Term.int (115 : Int32))) ∈ flatC (Jvm.Cond.and given_1 narrow_1) := List.mem_of_getElem? (i := 255) (by decide +kernel)
theorem fg_256 : (Jvm.Cond.eq (Jvm.Term.elem (Jvm.Term.static "SnowRecorderModel" "KNOWN" "[B") (Jvm.Term.int (18 : Int32))) (Jvm.Term.int (110 : Int32))) ∈ flatC (Jvm.Cond.and given_1 narrow_1) := List.mem_of_getElem? (i := 256) (by decide +kernel)
theorem fg_257 : (Jvm.Cond.eq (Jvm.Term.elem (Jvm.Term.static "SnowRecorderModel" "KNOWN" "[B") (Jvm.Term.int (19 : Int32))) (Jvm.Term.int (111 : Int32))) ∈ flatC (Jvm.Cond.and given_1 narrow_1) := List.mem_of_getElem? (i := 257) (by decide +kernel)
theorem fg_258 : (Jvm.Cond.eq (Jvm.Term.elem (Jvm.Term.static "SnowRecorderModel" "KNOWN" "[B") (Jvm.Term.int (20 : Int32))) (Jvm.Term.int (119 : Int32))) ∈ flatC (Jvm.Cond.and given_1 narrow_1) := List.mem_of_getElem? (i := 258) (by decide +kernel)
theorem fg_259 : (Jvm.Cond.eq (Jvm.Term.elem (Jvm.Term.static "SnowRecorderModel" "KNOWN" "[B") (Jvm.Term.int (21 : Int32))) (Jvm.Term.int (32 : Int32))) ∈ flatC (Jvm.Cond.and given_1 narrow_1) := List.mem_of_getElem? (i := 259) (by decide +kernel)
theorem fg_260 : (Jvm.Cond.eq (Jvm.Term.elem (Jvm.Term.static "SnowRecorderModel" "KNOWN" "[B") (Jvm.Term.int (22 : Int32))) (Jvm.Term.int (114 : Int32))) ∈ flatC (Jvm.Cond.and given_1 narrow_1) := List.mem_of_getElem? (i := 260) (by decide +kernel)
theorem fg_261 : (Jvm.Cond.eq (Jvm.Term.elem (Jvm.Term.static "SnowRecorderModel" "KNOWN" "[B") (Jvm.Term.int (23 : Int32))) (Jvm.Term.int (97 : Int32))) ∈ flatC (Jvm.Cond.and given_1 narrow_1) := List.mem_of_getElem? (i := 261) (by decide +kernel)
theorem fg_262 : (Jvm.Cond.eq (Jvm.Term.elem (Jvm.Term.static "SnowRecorderModel" "KNOWN" "[B") (Jvm.Term.int (24 : Int32))) (Jvm.Term.int (105 : Int32))) ∈ flatC (Jvm.Cond.and given_1 narrow_1) := List.mem_of_getElem? (i := 262) (by decide +kernel)
theorem fg_263 : (Jvm.Cond.eq (Jvm.Term.elem (Jvm.Term.static "SnowRecorderModel" "KNOWN" "[B") (Jvm.Term.int (25 : Int32))) (Jvm.Term.int (110 : Int32))) ∈ flatC (Jvm.Cond.and given_1 narrow_1) := List.mem_of_getElem? (i := 263) (by decide +kernel)
theorem fg_264 : (Jvm.Cond.eq (Jvm.Term.elem (Jvm.Term.static "SnowRecorderModel" "KNOWN" "[B") (Jvm.Term.int (26 : Int32))) (Jvm.Term.int (32 : Int32))) ∈ flatC (Jvm.Cond.and given_1 narrow_1) := List.mem_of_getElem? (i := 264) (by decide +kernel)
theorem fg_265 : (Jvm.Cond.eq (Jvm.Term.elem (Jvm.Term.static "SnowRecorderModel" "KNOWN" "[B") (Jvm.Term.int (27 : Int32))) (Jvm.Term.int (104 : Int32))) ∈ flatC (Jvm.Cond.and given_1 narrow_1) := List.mem_of_getElem? (i := 265) (by decide +kernel)
theorem fg_266 : (Jvm.Cond.eq (Jvm.Term.elem (Jvm.Term.static "SnowRecorderModel" "KNOWN" "[B") (Jvm.Term.int (28 : Int32))) (Jvm.Term.int (111 : Int32))) ∈ flatC (Jvm.Cond.and given_1 narrow_1) := List.mem_of_getElem? (i := 266) (by decide +kernel)
theorem fg_267 : (Jvm.Cond.eq (Jvm.Term.elem (Jvm.Term.static "SnowRecorderModel" "KNOWN" "[B") (Jvm.Term.int (29 : Int32))) (Jvm.Term.int (97 : Int32))) ∈ flatC (Jvm.Cond.and given_1 narrow_1) := List.mem_of_getElem? (i := 267) (by decide +kernel)
theorem fg_268 : (Jvm.Cond.eq (Jvm.Term.elem (Jvm.Term.static "SnowRecorderModel" "KNOWN" "[B") (Jvm.Term.int (30 : Int32))) (Jvm.Term.int (114 : Int32))) ∈ flatC (Jvm.Cond.and given_1 narrow_1) := List.mem_of_getElem? (i := 268) (by decide +kernel)
theorem fg_269 : (Jvm.Cond.eq (Jvm.Term.elem (Jvm.Term.static "SnowRecorderModel" "KNOWN" "[B") (Jvm.Term.int (31 : Int32))) (Jvm.Term.int (32 : Int32))) ∈ flatC (Jvm.Cond.and given_1 narrow_1) := List.mem_of_getElem? (i := 269) (by decide +kernel)
theorem fg_270 : (Jvm.Cond.eq (Jvm.Term.elem (Jvm.Term.static "SnowRecorderModel" "KNOWN" "[B") (Jvm.Term.int (32 : Int32))) (Jvm.Term.int (115 : Int32))) ∈ flatC (Jvm.Cond.and given_1 narrow_1) := List.mem_of_getElem? (i := 270) (by decide +kernel)
theorem fg_271 : (Jvm.Cond.eq (Jvm.Term.elem (Jvm.Term.static "SnowRecorderModel" "KNOWN" "[B") (Jvm.Term.int (33 : Int32))) (Jvm.Term.int (116 : Int32))) ∈ flatC (Jvm.Cond.and given_1 narrow_1) := List.mem_of_getElem? (i := 271) (by decide +kernel)
theorem fg_272 : (Jvm.Cond.eq (Jvm.Term.elem (Jvm.Term.static "SnowRecorderModel" "KNOWN" "[B") (Jvm.Term.int (34 : Int32))) (Jvm.Term.int (114 : Int32))) ∈ flatC (Jvm.Cond.and given_1 narrow_1) := List.mem_of_getElem? (i := 272) (by decide +kernel)
theorem fg_273 : (Jvm.Cond.eq (Jvm.Term.elem (Jvm.Term.static "SnowRecorderModel" "KNOWN" "[B") (Jvm.Term.int (35 : Int32))) (Jvm.Term.int (111 : Int32))) ∈ flatC (Jvm.Cond.and given_1 narrow_1) := List.mem_of_getElem? (i := 273) (by decide +kernel)
theorem fg_274 : (Jvm.Cond.eq (Jvm.Term.elem (Jvm.Term.static "SnowRecorderModel" "KNOWN" "[B") (Jvm.Term.int (36 : Int32))) (Jvm.Term.int (110 : Int32))) ∈ flatC (Jvm.Cond.and given_1 narrow_1) := List.mem_of_getElem? (i := 274) (by decide +kernel)
theorem fg_275 : (Jvm.Cond.eq (Jvm.Term.elem (Jvm.Term.static "SnowRecorderModel" "KNOWN" "[B") (Jvm.Term.int (37 : Int32))) (Jvm.Term.int (103 : Int32))) ∈ flatC (Jvm.Cond.and given_1 narrow_1) := List.mem_of_getElem? (i := 275) (by decide +kernel)
theorem fg_276 : (Jvm.Cond.eq (Jvm.Term.elem (Jvm.Term.static "SnowRecorderModel" "KNOWN" "[B") (Jvm.Term.int (38 : Int32))) (Jvm.Term.int (32 : Int32))) ∈ flatC (Jvm.Cond.and given_1 narrow_1) := List.mem_of_getElem? (i := 276) (by decide +kernel)
theorem fg_277 : (Jvm.Cond.eq (Jvm.Term.elem (Jvm.Term.static "SnowRecorderModel" "KNOWN" "[B") (Jvm.Term.int (39 : Int32))) (Jvm.Term.int (104 : Int32))) ∈ flatC (Jvm.Cond.and given_1 narrow_1) := List.mem_of_getElem? (i := 277) (by decide +kernel)
theorem fg_278 : (Jvm.Cond.eq (Jvm.Term.elem (Jvm.Term.static "SnowRecorderModel" "KNOWN" "[B") (Jvm.Term.int (40 : Int32))) (Jvm.Term.int (111 : Int32))) ∈ flatC (Jvm.Cond.and given_1 narrow_1) := List.mem_of_getElem? (i := 278) (by decide +kernel)
theorem fg_279 : (Jvm.Cond.eq (Jvm.Term.elem (Jvm.Term.static "SnowRecorderModel" "KNOWN" "[B") (Jvm.Term.int (41 : Int32))) (Jvm.Term.int (108 : Int32))) ∈ flatC (Jvm.Cond.and given_1 narrow_1) := List.mem_of_getElem? (i := 279) (by decide +kernel)
theorem fg_280 : (Jvm.Cond.eq (Jvm.Term.elem (Jvm.Term.static "SnowRecorderModel" "KNOWN" "[B") (Jvm.Term.int (42 : Int32))) (Jvm.Term.int (100 : Int32))) ∈ flatC (Jvm.Cond.and given_1 narrow_1) := List.mem_of_getElem? (i := 280) (by decide +kernel)
theorem fg_281 : (Jvm.Cond.eq (Jvm.Term.elem (Jvm.Term.static "SnowRecorderModel" "KNOWN" "[B") (Jvm.Term.int (43 : Int32))) (Jvm.Term.int (115 : Int32))) ∈ flatC (Jvm.Cond.and given_1 narrow_1) := List.mem_of_getElem? (i := 281) (by decide +kernel)
theorem fg_282 : (Jvm.Cond.eq (Jvm.Term.elem (Jvm.Term.static "SnowRecorderModel" "KNOWN" "[B") (Jvm.Term.int (44 : Int32))) (Jvm.Term.int (32 : Int32))) ∈ flatC (Jvm.Cond.and given_1 narrow_1) := List.mem_of_getElem? (i := 282) (by decide +kernel)
theorem fg_283 : (Jvm.Cond.eq (Jvm.Term.elem (Jvm.Term.static "SnowRecorderModel" "KNOWN" "[B") (Jvm.Term.int (45 : Int32))) (Jvm.Term.int (115 : Int32))) ∈ flatC (Jvm.Cond.and given_1 narrow_1) := List.mem_of_getElem? (i := 283) (by decide +kernel)
theorem fg_284 : (Jvm.Cond.eq (Jvm.Term.elem (Jvm.Term.static "SnowRecorderModel" "KNOWN" "[B") (Jvm.Term.int (46 : Int32))) (Jvm.Term.int (116 : Int32))) ∈ flatC (Jvm.Cond.and given_1 narrow_1) := List.mem_of_getElem? (i := 284) (by decide +kernel)
theorem fg_285 : (Jvm.Cond.eq (Jvm.Term.elem (Jvm.Term.static "SnowRecorderModel" "KNOWN" "[B") (Jvm.Term.int (47 : Int32))) (Jvm.Term.int (105 : Int32))) ∈ flatC (Jvm.Cond.and given_1 narrow_1) := List.mem_of_getElem? (i := 285) (by decide +kernel)
theorem fg_286 : (Jvm.Cond.eq (Jvm.Term.elem (Jvm.Term.static "SnowRecorderModel" "KNOWN" "[B") (Jvm.Term.int (48 : Int32))) (Jvm.Term.int (102 : Int32))) ∈ flatC (Jvm.Cond.and given_1 narrow_1) := List.mem_of_getElem? (i := 286) (by decide +kernel)
theorem fg_287 : (Jvm.Cond.eq (Jvm.Term.elem (Jvm.Term.static "SnowRecorderModel" "KNOWN" "[B") (Jvm.Term.int (49 : Int32))) (Jvm.Term.int (102 : Int32))) ∈ flatC (Jvm.Cond.and given_1 narrow_1) := List.mem_of_getElem? (i := 287) (by decide +kernel)
theorem fg_288 : (Jvm.Cond.eq (Jvm.Term.elem (Jvm.Term.static "SnowRecorderModel" "KNOWN" "[B") (Jvm.Term.int (50 : Int32))) (Jvm.Term.int (32 : Int32))) ∈ flatC (Jvm.Cond.and given_1 narrow_1) := List.mem_of_getElem? (i := 288) (by decide +kernel)
theorem fg_289 : (Jvm.Cond.eq (Jvm.Term.elem (Jvm.Term.static "SnowRecorderModel" "KNOWN" "[B") (Jvm.Term.int (51 : Int32))) (Jvm.Term.int (112 : Int32))) ∈ flatC (Jvm.Cond.and given_1 narrow_1) := List.mem_of_getElem? (i := 289) (by decide +kernel)
theorem fg_290 : (Jvm.Cond.eq (Jvm.Term.elem (Jvm.Term.static "SnowRecorderModel" "KNOWN" "[B") (Jvm.Term.int (52 : Int32))) (Jvm.Term.int (111 : Int32))) ∈ flatC (Jvm.Cond.and given_1 narrow_1) := List.mem_of_getElem? (i := 290) (by decide +kernel)
theorem fg_291 : (Jvm.Cond.eq (Jvm.Term.elem (Jvm.Term.static "SnowRecorderModel" "KNOWN" "[B") (Jvm.Term.int (53 : Int32))) (Jvm.Term.int (119 : Int32))) ∈ flatC (Jvm.Cond.and given_1 narrow_1) := List.mem_of_getElem? (i := 291) (by decide +kernel)
theorem fg_292 : (Jvm.Cond.eq (Jvm.Term.elem (Jvm.Term.static "SnowRecorderModel" "KNOWN" "[B") (Jvm.Term.int (54 : Int32))) (Jvm.Term.int (100 : Int32))) ∈ flatC (Jvm.Cond.and given_1 narrow_1) := List.mem_of_getElem? (i := 292) (by decide +kernel)
theorem fg_293 : (Jvm.Cond.eq (Jvm.Term.elem (Jvm.Term.static "SnowRecorderModel" "KNOWN" "[B") (Jvm.Term.int (55 : Int32))) (Jvm.Term.int (101 : Int32))) ∈ flatC (Jvm.Cond.and given_1 narrow_1) := List.mem_of_getElem? (i := 293) (by decide +kernel)
theorem fg_294 : (Jvm.Cond.eq (Jvm.Term.elem (Jvm.Term.static "SnowRecorderModel" "KNOWN" "[B") (Jvm.Term.int (56 : Int32))) (Jvm.Term.int (114 : Int32))) ∈ flatC (Jvm.Cond.and given_1 narrow_1) := List.mem_of_getElem? (i := 294) (by decide +kernel)
theorem fg_295 : (Jvm.Cond.eq (Jvm.Term.elem (Jvm.Term.static "SnowRecorderModel" "KNOWN" "[B") (Jvm.Term.int (57 : Int32))) (Jvm.Term.int (32 : Int32))) ∈ flatC (Jvm.Cond.and given_1 narrow_1) := List.mem_of_getElem? (i := 295) (by decide +kernel)
theorem fg_296 : (Jvm.Cond.eq (Jvm.Term.elem (Jvm.Term.static "SnowRecorderModel" "KNOWN" "[B") (Jvm.Term.int (58 : Int32))) (Jvm.Term.int (103 : Int32))) ∈ flatC (Jvm.Cond.and given_1 narrow_1) := List.mem_of_getElem? (i := 296) (by decide +kernel)
theorem fg_297 : (Jvm.Cond.eq (Jvm.Term.elem (Jvm.Term.static "SnowRecorderModel" "KNOWN" "[B") (Jvm.Term.int (59 : Int32))) (Jvm.Term.int (114 : Int32))) ∈ flatC (Jvm.Cond.and given_1 narrow_1) := List.mem_of_getElem? (i := 297) (by decide +kernel)
theorem fg_298 : (Jvm.Cond.eq (Jvm.Term.elem (Jvm.Term.static "SnowRecorderModel" "KNOWN" "[B") (Jvm.Term.int (60 : Int32))) (Jvm.Term.int (97 : Int32))) ∈ flatC (Jvm.Cond.and given_1 narrow_1) := List.mem_of_getElem? (i := 298) (by decide +kernel)
theorem fg_299 : (Jvm.Cond.eq (Jvm.Term.elem (Jvm.Term.static "SnowRecorderModel" "KNOWN" "[B") (Jvm.Term.int (61 : Int32))) (Jvm.Term.int (105 : Int32))) ∈ flatC (Jvm.Cond.and given_1 narrow_1) := List.mem_of_getElem? (i := 299) (by decide +kernel)
theorem fg_300 : (Jvm.Cond.eq (Jvm.Term.elem (Jvm.Term.static "SnowRecorderModel" "KNOWN" "[B") (Jvm.Term.int (62 : Int32))) (Jvm.Term.int (110 : Int32))) ∈ flatC (Jvm.Cond.and given_1 narrow_1) := List.mem_of_getElem? (i := 300) (by decide +kernel)
theorem fg_301 : (Jvm.Cond.eq (Jvm.Term.elem (Jvm.Term.static "SnowRecorderModel" "KNOWN" "[B") (Jvm.Term.int (63 : Int32))) (Jvm.Term.int (115 : Int32))) ∈ flatC (Jvm.Cond.and given_1 narrow_1) := List.mem_of_getElem? (i := 301) (by decide +kernel)
theorem fg_302 : (Jvm.Cond.eq (Jvm.Term.elem (Jvm.Term.static "SnowRecorderModel" "KNOWN" "[B") (Jvm.Term.int (64 : Int32))) (Jvm.Term.int (32 : Int32))) ∈ flatC (Jvm.Cond.and given_1 narrow_1) := List.mem_of_getElem? (i := 302) (by decide +kernel)
end
section
-- 9o1c.given.lean.txt
theorem fg_303 : (Jvm.Cond.eq (Jvm.Term.elem (Jvm.Term.static "SnowRecorderModel" "KNOWN" "[B") (Jvm.Term.int (65 : Int32))) (Jvm.Term.int (102 : Int32))) ∈ flatC (Jvm.Cond.and given_1 narrow_1) := List.mem_of_getElem? (i := 303) (by decide +kernel)
theorem fg_304 : (Jvm.Cond.eq (Jvm.Term.elem (Jvm.Term.static "SnowRecorderModel" "KNOWN" "[B") (Jvm.Term.int (66 : Int32))) (Jvm.Term.int (97 : Int32))) ∈ flatC (Jvm.Cond.and given_1 narrow_1) := List.mem_of_getElem? (i := 304) (by decide +kernel)
theorem fg_305 : (Jvm.Cond.eq (Jvm.Term.elem (Jvm.Term.static "SnowRecorderModel" "KNOWN" "[B") (Jvm.Term.int (67 : Int32))) (Jvm.Term.int (99 : Int32))) ∈ flatC (Jvm.Cond.and given_1 narrow_1) := List.mem_of_getElem? (i := 305) (by decide +kernel)
theorem fg_306 : (Jvm.Cond.eq (Jvm.Term.elem (Jvm.Term.static "SnowRecorderModel" "KNOWN" "[B") (Jvm.Term.int (68 : Int32))) (Jvm.Term.int (101 : Int32))) ∈ flatC (Jvm.Cond.and given_1 narrow_1) := List.mem_of_getElem? (i := 306) (by decide +kernel)
theorem fg_307 : (Jvm.Cond.eq (Jvm.Term.elem (Jvm.Term.static "SnowRecorderModel" "KNOWN" "[B") (Jvm.Term.int (69 : Int32))) (Jvm.Term.int (116 : Int32))) ∈ flatC (Jvm.Cond.and given_1 narrow_1) := List.mem_of_getElem? (i := 307) (by decide +kernel)
theorem fg_308 : (Jvm.Cond.eq (Jvm.Term.elem (Jvm.Term.static "SnowRecorderModel" "KNOWN" "[B") (Jvm.Term.int (70 : Int32))) (Jvm.Term.int (115 : Int32))) ∈ flatC (Jvm.Cond.and given_1 narrow_1) := List.mem_of_getElem? (i := 308) (by decide +kernel)
theorem fg_309 : (Jvm.Cond.eq (Jvm.Term.elem (Jvm.Term.static "SnowRecorderModel" "KNOWN" "[B") (Jvm.Term.int (71 : Int32))) (Jvm.Term.int (32 : Int32))) ∈ flatC (Jvm.Cond.and given_1 narrow_1) := List.mem_of_getElem? (i := 309) (by decide +kernel)
theorem fg_310 : (Jvm.Cond.eq (Jvm.Term.elem (Jvm.Term.static "SnowRecorderModel" "KNOWN" "[B") (Jvm.Term.int (72 : Int32))) (Jvm.Term.int (99 : Int32))) ∈ flatC (Jvm.Cond.and given_1 narrow_1) := List.mem_of_getElem? (i := 310) (by decide +kernel)
theorem fg_311 : (Jvm.Cond.eq (Jvm.Term.elem (Jvm.Term.static "SnowRecorderModel" "KNOWN" "[B") (Jvm.Term.int (73 : Int32))) (Jvm.Term.int (114 : Int32))) ∈ flatC (Jvm.Cond.and given_1 narrow_1) := List.mem_of_getElem? (i := 311) (by decide +kernel)
theorem fg_312 : (Jvm.Cond.eq (Jvm.Term.elem (Jvm.Term.static "SnowRecorderModel" "KNOWN" "[B") (Jvm.Term.int (74 : Int32))) (Jvm.Term.int (117 : Int32))) ∈ flatC (Jvm.Cond.and given_1 narrow_1) := List.mem_of_getElem? (i := 312) (by decide +kernel)
theorem fg_313 : (Jvm.Cond.eq (Jvm.Term.elem (Jvm.Term.static "SnowRecorderModel" "KNOWN" "[B") (Jvm.Term.int (75 : Int32))) (Jvm.Term.int (115 : Int32))) ∈ flatC (Jvm.Cond.and given_1 narrow_1) := List.mem_of_getElem? (i := 313) (by decide +kernel)
theorem fg_314 : (Jvm.Cond.eq (Jvm.Term.elem (Jvm.Term.static "SnowRecorderModel" "KNOWN" "[B") (Jvm.Term.int (76 : Int32))) (Jvm.Term.int (116 : Int32))) ∈ flatC (Jvm.Cond.and given_1 narrow_1) := List.mem_of_getElem? (i := 314) (by decide +kernel)
theorem fg_315 : (Jvm.Cond.eq (Jvm.Term.elem (Jvm.Term.static "SnowRecorderModel" "KNOWN" "[B") (Jvm.Term.int (77 : Int32))) (Jvm.Term.int (32 : Int32))) ∈ flatC (Jvm.Cond.and given_1 narrow_1) := List.mem_of_getElem? (i := 315) (by decide +kernel)
theorem fw_1668 : (Jvm.Cond.laysStatic "SnowRecorderModel" "KNOWN" "[B") ∈ lw_tbl := tb_7 (List.mem_of_getElem? (i := 228) (by decide +kernel))
theorem fw_15 : (Jvm.Cond.initialized "SnowRecorderModel") ∈ lw_tbl := tb_1 (List.mem_of_getElem? (i := 15) (by decide +kernel))
theorem fg_30 : (Jvm.Cond.arrayOf (Jvm.Term.static "java/lang/Integer" "DigitOnes" "[B") Jvm.ClassFile.FieldType.byte) ∈ flatC (Jvm.Cond.and given_1 narrow_1) := List.mem_of_getElem? (i := 30) (by decide +kernel)
theorem fg_31 : (Jvm.Cond.eq (Jvm.Term.length (Jvm.Term.static "java/lang/Integer" "DigitOnes" "[B")) (Jvm.Term.int (100 : Int32))) ∈ flatC (Jvm.Cond.and given_1 narrow_1) := List.mem_of_getElem? (i := 31) (by decide +kernel)
theorem fg_32 : (Jvm.Cond.eq (Jvm.Term.elem (Jvm.Term.static "java/lang/Integer" "DigitOnes" "[B") (Jvm.Term.int (0 : Int32))) (Jvm.Term.int (48 : Int32))) ∈ flatC (Jvm.Cond.and given_1 narrow_1) := List.mem_of_getElem? (i := 32) (by decide +kernel)
theorem fg_33 : (Jvm.Cond.eq (Jvm.Term.elem (Jvm.Term.static "java/lang/Integer" "DigitOnes" "[B") (Jvm.Term.int (1 : Int32))) (Jvm.Term.int (49 : Int32))) ∈ flatC (Jvm.Cond.and given_1 narrow_1) := List.mem_of_getElem? (i := 33) (by decide +kernel)
theorem fg_34 : (Jvm.Cond.eq (Jvm.Term.elem (Jvm.Term.static "java/lang/Integer" "DigitOnes" "[B") (Jvm.Term.int (2 : Int32))) (Jvm.Term.int (50 : Int32))) ∈ flatC (Jvm.Cond.and given_1 narrow_1) := List.mem_of_getElem? (i := 34) (by decide +kernel)
theorem fg_35 : (Jvm.Cond.eq (Jvm.Term.elem (Jvm.Term.static "java/lang/Integer" "DigitOnes" "[B") (Jvm.Term.int (3 : Int32))) (Jvm.Term.int (51 : Int32))) ∈ flatC (Jvm.Cond.and given_1 narrow_1) := List.mem_of_getElem? (i := 35) (by decide +kernel)
theorem fg_36 : (Jvm.Cond.eq (Jvm.Term.elem (Jvm.Term.static "java/lang/Integer" "DigitOnes" "[B") (Jvm.Term.int (4 : Int32))) (Jvm.Term.int (52 : Int32))) ∈ flatC (Jvm.Cond.and given_1 narrow_1) := List.mem_of_getElem? (i := 36) (by decide +kernel)
theorem fg_37 : (Jvm.Cond.eq (Jvm.Term.elem (Jvm.Term.static "java/lang/Integer" "DigitOnes" "[B") (Jvm.Term.int (5 : Int32))) (Jvm.Term.int (53 : Int32))) ∈ flatC (Jvm.Cond.and given_1 narrow_1) := List.mem_of_getElem? (i := 37) (by decide +kernel)
theorem fg_38 : (Jvm.Cond.eq (Jvm.Term.elem (Jvm.Term.static "java/lang/Integer" "DigitOnes" "[B") (Jvm.Term.int (6 : Int32))) (Jvm.Term.int (54 : Int32))) ∈ flatC (Jvm.Cond.and given_1 narrow_1) := List.mem_of_getElem? (i := 38) (by decide +kernel)
theorem fg_39 : (Jvm.Cond.eq (Jvm.Term.elem (Jvm.Term.static "java/lang/Integer" "DigitOnes" "[B") (Jvm.Term.int (7 : Int32))) (Jvm.Term.int (55 : Int32))) ∈ flatC (Jvm.Cond.and given_1 narrow_1) := List.mem_of_getElem? (i := 39) (by decide +kernel)
theorem fg_40 : (Jvm.Cond.eq (Jvm.Term.elem (Jvm.Term.static "java/lang/Integer" "DigitOnes" "[B") (Jvm.Term.int (8 : Int32))) (Jvm.Term.int (56 : Int32))) ∈ flatC (Jvm.Cond.and given_1 narrow_1) := List.mem_of_getElem? (i := 40) (by decide +kernel)
theorem fg_41 : (Jvm.Cond.eq (Jvm.Term.elem (Jvm.Term.static "java/lang/Integer" "DigitOnes" "[B") (Jvm.Term.int (9 : Int32))) (Jvm.Term.int (57 : Int32))) ∈ flatC (Jvm.Cond.and given_1 narrow_1) := List.mem_of_getElem? (i := 41) (by decide +kernel)
theorem fg_42 : (Jvm.Cond.eq (Jvm.Term.elem (Jvm.Term.static "java/lang/Integer" "DigitOnes" "[B") (Jvm.Term.int (10 : Int32))) (Jvm.Term.int (48 : Int32))) ∈ flatC (Jvm.Cond.and given_1 narrow_1) := List.mem_of_getElem? (i := 42) (by decide +kernel)
theorem fg_43 : (Jvm.Cond.eq (Jvm.Term.elem (Jvm.Term.static "java/lang/Integer" "DigitOnes" "[B") (Jvm.Term.int (11 : Int32))) (Jvm.Term.int (49 : Int32))) ∈ flatC (Jvm.Cond.and given_1 narrow_1) := List.mem_of_getElem? (i := 43) (by decide +kernel)
theorem fg_44 : (Jvm.Cond.eq (Jvm.Term.elem (Jvm.Term.static "java/lang/Integer" "DigitOnes" "[B") (Jvm.Term.int (12 : Int32))) (Jvm.Term.int (50 : Int32))) ∈ flatC (Jvm.Cond.and given_1 narrow_1) := List.mem_of_getElem? (i := 44) (by decide +kernel)
theorem fg_45 : (Jvm.Cond.eq (Jvm.Term.elem (Jvm.Term.static "java/lang/Integer" "DigitOnes" "[B") (Jvm.Term.int (13 : Int32))) (Jvm.Term.int (51 : Int32))) ∈ flatC (Jvm.Cond.and given_1 narrow_1) := List.mem_of_getElem? (i := 45) (by decide +kernel)
theorem fg_46 : (Jvm.Cond.eq (Jvm.Term.elem (Jvm.Term.static "java/lang/Integer" "DigitOnes" "[B") (Jvm.Term.int (14 : Int32))) (Jvm.Term.int (52 : Int32))) ∈ flatC (Jvm.Cond.and given_1 narrow_1) := List.mem_of_getElem? (i := 46) (by decide +kernel)
theorem fg_47 : (Jvm.Cond.eq (Jvm.Term.elem (Jvm.Term.static "java/lang/Integer" "DigitOnes" "[B") (Jvm.Term.int (15 : Int32))) (Jvm.Term.int (53 : Int32))) ∈ flatC (Jvm.Cond.and given_1 narrow_1) := List.mem_of_getElem? (i := 47) (by decide +kernel)
theorem fg_48 : (Jvm.Cond.eq (Jvm.Term.elem (Jvm.Term.static "java/lang/Integer" "DigitOnes" "[B") (Jvm.Term.int (16 : Int32))) (Jvm.Term.int (54 : Int32))) ∈ flatC (Jvm.Cond.and given_1 narrow_1) := List.mem_of_getElem? (i := 48) (by decide +kernel)
theorem fg_49 : (Jvm.Cond.eq (Jvm.Term.elem (Jvm.Term.static "java/lang/Integer" "DigitOnes" "[B") (Jvm.Term.int (17 : Int32))) (Jvm.Term.int (55 : Int32))) ∈ flatC (Jvm.Cond.and given_1 narrow_1) := List.mem_of_getElem? (i := 49) (by decide +kernel)
theorem fg_50 : (Jvm.Cond.eq (Jvm.Term.elem (Jvm.Term.static "java/lang/Integer" "DigitOnes" "[B") (Jvm.Term.int (18 : Int32))) (Jvm.Term.int (56 : Int32))) ∈ flatC (Jvm.Cond.and given_1 narrow_1) := List.mem_of_getElem? (i := 50) (by decide +kernel)
theorem fg_51 : (Jvm.Cond.eq (Jvm.Term.elem (Jvm.Term.static "java/lang/Integer" "DigitOnes" "[B") (Jvm.Term.int (19 : Int32))) (Jvm.Term.int (57 : Int32))) ∈ flatC (Jvm.Cond.and given_1 narrow_1) := List.mem_of_getElem? (i := 51) (by decide +kernel)
theorem fg_52 : (Jvm.Cond.eq (Jvm.Term.elem (Jvm.Term.static "java/lang/Integer" "DigitOnes" "[B") (Jvm.Term.int (20 : Int32))) (Jvm.Term.int (48 : Int32))) ∈ flatC (Jvm.Cond.and given_1 narrow_1) := List.mem_of_getElem? (i := 52) (by decide +kernel)
theorem fg_53 : (Jvm.Cond.eq (Jvm.Term.elem (Jvm.Term.static "java/lang/Integer" "DigitOnes" "[B") (Jvm.Term.int (21 : Int32))) (Jvm.Term.int (49 : Int32))) ∈ flatC (Jvm.Cond.and given_1 narrow_1) := List.mem_of_getElem? (i := 53) (by decide +kernel)
theorem fg_54 : (Jvm.Cond.eq (Jvm.Term.elem (Jvm.Term.static "java/lang/Integer" "DigitOnes" "[B") (Jvm.Term.int (22 : Int32))) (Jvm.Term.int (50 : Int32))) ∈ flatC (Jvm.Cond.and given_1 narrow_1) := List.mem_of_getElem? (i := 54) (by decide +kernel)
theorem fg_55 : (Jvm.Cond.eq (Jvm.Term.elem (Jvm.Term.static "java/lang/Integer" "DigitOnes" "[B") (Jvm.Term.int (23 : Int32))) (Jvm.Term.int (51 : Int32))) ∈ flatC (Jvm.Cond.and given_1 narrow_1) := List.mem_of_getElem? (i := 55) (by decide +kernel)
theorem fg_56 : (Jvm.Cond.eq (Jvm.Term.elem (Jvm.Term.static "java/lang/Integer" "DigitOnes" "[B") (Jvm.Term.int (24 : Int32))) (Jvm.Term.int (52 : Int32))) ∈ flatC (Jvm.Cond.and given_1 narrow_1) := List.mem_of_getElem? (i := 56) (by decide +kernel)
theorem fg_57 : (Jvm.Cond.eq (Jvm.Term.elem (Jvm.Term.static "java/lang/Integer" "DigitOnes" "[B") (Jvm.Term.int (25 : Int32))) (Jvm.Term.int (53 : Int32))) ∈ flatC (Jvm.Cond.and given_1 narrow_1) := List.mem_of_getElem? (i := 57) (by decide +kernel)
theorem fg_58 : (Jvm.Cond.eq (Jvm.Term.elem (Jvm.Term.static "java/lang/Integer" "DigitOnes" "[B") (Jvm.Term.int (26 : Int32))) (Jvm.Term.int (54 : Int32))) ∈ flatC (Jvm.Cond.and given_1 narrow_1) := List.mem_of_getElem? (i := 58) (by decide +kernel)
theorem fg_59 : (Jvm.Cond.eq (Jvm.Term.elem (Jvm.Term.static "java/lang/Integer" "DigitOnes" "[B") (Jvm.Term.int (27 : Int32))) (Jvm.Term.int (55 : Int32))) ∈ flatC (Jvm.Cond.and given_1 narrow_1) := List.mem_of_getElem? (i := 59) (by decide +kernel)
theorem fg_60 : (Jvm.Cond.eq (Jvm.Term.elem (Jvm.Term.static "java/lang/Integer" "DigitOnes" "[B") (Jvm.Term.int (28 : Int32))) (Jvm.Term.int (56 : Int32))) ∈ flatC (Jvm.Cond.and given_1 narrow_1) := List.mem_of_getElem? (i := 60) (by decide +kernel)
theorem fg_61 : (Jvm.Cond.eq (Jvm.Term.elem (Jvm.Term.static "java/lang/Integer" "DigitOnes" "[B") (Jvm.Term.int (29 : Int32))) (Jvm.Term.int (57 : Int32))) ∈ flatC (Jvm.Cond.and given_1 narrow_1) := List.mem_of_getElem? (i := 61) (by decide +kernel)
theorem fg_62 : (Jvm.Cond.eq (Jvm.Term.elem (Jvm.Term.static "java/lang/Integer" "DigitOnes" "[B") (Jvm.Term.int (30 : Int32))) (Jvm.Term.int (48 : Int32))) ∈ flatC (Jvm.Cond.and given_1 narrow_1) := List.mem_of_getElem? (i := 62) (by decide +kernel)
theorem fg_63 : (Jvm.Cond.eq (Jvm.Term.elem (Jvm.Term.static "java/lang/Integer" "DigitOnes" "[B") (Jvm.Term.int (31 : Int32))) (Jvm.Term.int (49 : Int32))) ∈ flatC (Jvm.Cond.and given_1 narrow_1) := List.mem_of_getElem? (i := 63) (by decide +kernel)
theorem fg_64 : (Jvm.Cond.eq (Jvm.Term.elem (Jvm.Term.static "java/lang/Integer" "DigitOnes" "[B") (Jvm.Term.int (32 : Int32))) (Jvm.Term.int (50 : Int32))) ∈ flatC (Jvm.Cond.and given_1 narrow_1) := List.mem_of_getElem? (i := 64) (by decide +kernel)
theorem fg_65 : (Jvm.Cond.eq (Jvm.Term.elem (Jvm.Term.static "java/lang/Integer" "DigitOnes" "[B") (Jvm.Term.int (33 : Int32))) (Jvm.Term.int (51 : Int32))) ∈ flatC (Jvm.Cond.and given_1 narrow_1) := List.mem_of_getElem? (i := 65) (by decide +kernel)
theorem fg_66 : (Jvm.Cond.eq (Jvm.Term.elem (Jvm.Term.static "java/lang/Integer" "DigitOnes" "[B") (Jvm.Term.int (34 : Int32))) (Jvm.Term.int (52 : Int32))) ∈ flatC (Jvm.Cond.and given_1 narrow_1) := List.mem_of_getElem? (i := 66) (by decide +kernel)
theorem fg_67 : (Jvm.Cond.eq (Jvm.Term.elem (Jvm.Term.static "java/lang/Integer" "DigitOnes" "[B") (Jvm.Term.int (35 : Int32))) (Jvm.Term.int (53 : Int32))) ∈ flatC (Jvm.Cond.and given_1 narrow_1) := List.mem_of_getElem? (i := 67) (by decide +kernel)
theorem fg_68 : (Jvm.Cond.eq (Jvm.Term.elem (Jvm.Term.static "java/lang/Integer" "DigitOnes" "[B") (Jvm.Term.int (36 : Int32))) (Jvm.Term.int (54 : Int32))) ∈ flatC (Jvm.Cond.and given_1 narrow_1) := List.mem_of_getElem? (i := 68) (by decide +kernel)
theorem fg_69 : (Jvm.Cond.eq (Jvm.Term.elem (Jvm.Term.static "java/lang/Integer" "DigitOnes" "[B") (Jvm.Term.int (37 : Int32))) (Jvm.Term.int (55 : Int32))) ∈ flatC (Jvm.Cond.and given_1 narrow_1) := List.mem_of_getElem? (i := 69) (by decide +kernel)
theorem fg_70 : (Jvm.Cond.eq (Jvm.Term.elem (Jvm.Term.static "java/lang/Integer" "DigitOnes" "[B") (Jvm.Term.int (38 : Int32))) (Jvm.Term.int (56 : Int32))) ∈ flatC (Jvm.Cond.and given_1 narrow_1) := List.mem_of_getElem? (i := 70) (by decide +kernel)
theorem fg_71 : (Jvm.Cond.eq (Jvm.Term.elem (Jvm.Term.static "java/lang/Integer" "DigitOnes" "[B") (Jvm.Term.int (39 : Int32))) (Jvm.Term.int (57 : Int32))) ∈ flatC (Jvm.Cond.and given_1 narrow_1) := List.mem_of_getElem? (i := 71) (by decide +kernel)
theorem fg_72 : (Jvm.Cond.eq (Jvm.Term.elem (Jvm.Term.static "java/lang/Integer" "DigitOnes" "[B") (Jvm.Term.int (40 : Int32))) (Jvm.Term.int (48 : Int32))) ∈ flatC (Jvm.Cond.and given_1 narrow_1) := List.mem_of_getElem? (i := 72) (by decide +kernel)
theorem fg_73 : (Jvm.Cond.eq (Jvm.Term.elem (Jvm.Term.static "java/lang/Integer" "DigitOnes" "[B") (Jvm.Term.int (41 : Int32))) (Jvm.Term.int (49 : Int32))) ∈ flatC (Jvm.Cond.and given_1 narrow_1) := List.mem_of_getElem? (i := 73) (by decide +kernel)
theorem fg_74 : (Jvm.Cond.eq (Jvm.Term.elem (Jvm.Term.static "java/lang/Integer" "DigitOnes" "[B") (Jvm.Term.int (42 : Int32))) (Jvm.Term.int (50 : Int32))) ∈ flatC (Jvm.Cond.and given_1 narrow_1) := List.mem_of_getElem? (i := 74) (by decide +kernel)
theorem fg_75 : (Jvm.Cond.eq (Jvm.Term.elem (Jvm.Term.static "java/lang/Integer" "DigitOnes" "[B") (Jvm.Term.int (43 : Int32))) (Jvm.Term.int (51 : Int32))) ∈ flatC (Jvm.Cond.and given_1 narrow_1) := List.mem_of_getElem? (i := 75) (by decide +kernel)
theorem fg_76 : (Jvm.Cond.eq (Jvm.Term.elem (Jvm.Term.static "java/lang/Integer" "DigitOnes" "[B") (Jvm.Term.int (44 : Int32))) (Jvm.Term.int (52 : Int32))) ∈ flatC (Jvm.Cond.and given_1 narrow_1) := List.mem_of_getElem? (i := 76) (by decide +kernel)
theorem fg_77 : (Jvm.Cond.eq (Jvm.Term.elem (Jvm.Term.static "java/lang/Integer" "DigitOnes" "[B") (Jvm.Term.int (45 : Int32))) (Jvm.Term.int (53 : Int32))) ∈ flatC (Jvm.Cond.and given_1 narrow_1) := List.mem_of_getElem? (i := 77) (by decide +kernel)
theorem fg_78 : (Jvm.Cond.eq (Jvm.Term.elem (Jvm.Term.static "java/lang/Integer" "DigitOnes" "[B") (Jvm.Term.int (46 : Int32))) (Jvm.Term.int (54 : Int32))) ∈ flatC (Jvm.Cond.and given_1 narrow_1) := List.mem_of_getElem? (i := 78) (by decide +kernel)
theorem fg_79 : (Jvm.Cond.eq (Jvm.Term.elem (Jvm.Term.static "java/lang/Integer" "DigitOnes" "[B") (Jvm.Term.int (47 : Int32))) (Jvm.Term.int (55 : Int32))) ∈ flatC (Jvm.Cond.and given_1 narrow_1) := List.mem_of_getElem? (i := 79) (by decide +kernel)
theorem fg_80 : (Jvm.Cond.eq (Jvm.Term.elem (Jvm.Term.static "java/lang/Integer" "DigitOnes" "[B") (Jvm.Term.int (48 : Int32))) (Jvm.Term.int (56 : Int32))) ∈ flatC (Jvm.Cond.and given_1 narrow_1) := List.mem_of_getElem? (i := 80) (by decide +kernel)
theorem fg_81 : (Jvm.Cond.eq (Jvm.Term.elem (Jvm.Term.static "java/lang/Integer" "DigitOnes" "[B") (Jvm.Term.int (49 : Int32))) (Jvm.Term.int (57 : Int32))) ∈ flatC (Jvm.Cond.and given_1 narrow_1) := List.mem_of_getElem? (i := 81) (by decide +kernel)
theorem fg_82 : (Jvm.Cond.eq (Jvm.Term.elem (Jvm.Term.static "java/lang/Integer" "DigitOnes" "[B") (Jvm.Term.int (50 : Int32))) (Jvm.Term.int (48 : Int32))) ∈ flatC (Jvm.Cond.and given_1 narrow_1) := List.mem_of_getElem? (i := 82) (by decide +kernel)
theorem fg_83 : (Jvm.Cond.eq (Jvm.Term.elem (Jvm.Term.static "java/lang/Integer" "DigitOnes" "[B") (Jvm.Term.int (51 : Int32))) (Jvm.Term.int (49 : Int32))) ∈ flatC (Jvm.Cond.and given_1 narrow_1) := List.mem_of_getElem? (i := 83) (by decide +kernel)
theorem fg_84 : (Jvm.Cond.eq (Jvm.Term.elem (Jvm.Term.static "java/lang/Integer" "DigitOnes" "[B") (Jvm.Term.int (52 : Int32))) (Jvm.Term.int (50 : Int32))) ∈ flatC (Jvm.Cond.and given_1 narrow_1) := List.mem_of_getElem? (i := 84) (by decide +kernel)
theorem fg_85 : (Jvm.Cond.eq (Jvm.Term.elem (Jvm.Term.static "java/lang/Integer" "DigitOnes" "[B") (Jvm.Term.int (53 : Int32))) (Jvm.Term.int (51 : Int32))) ∈ flatC (Jvm.Cond.and given_1 narrow_1) := List.mem_of_getElem? (i := 85) (by decide +kernel)
theorem fg_86 : (Jvm.Cond.eq (Jvm.Term.elem (Jvm.Term.static "java/lang/Integer" "DigitOnes" "[B") (Jvm.Term.int (54 : Int32))) (Jvm.Term.int (52 : Int32))) ∈ flatC (Jvm.Cond.and given_1 narrow_1) := List.mem_of_getElem? (i := 86) (by decide +kernel)
theorem fg_87 : (Jvm.Cond.eq (Jvm.Term.elem (Jvm.Term.static "java/lang/Integer" "DigitOnes" "[B") (Jvm.Term.int (55 : Int32))) (Jvm.Term.int (53 : Int32))) ∈ flatC (Jvm.Cond.and given_1 narrow_1) := List.mem_of_getElem? (i := 87) (by decide +kernel)
theorem fg_88 : (Jvm.Cond.eq (Jvm.Term.elem (Jvm.Term.static "java/lang/Integer" "DigitOnes" "[B") (Jvm.Term.int (56 : Int32))) (Jvm.Term.int (54 : Int32))) ∈ flatC (Jvm.Cond.and given_1 narrow_1) := List.mem_of_getElem? (i := 88) (by decide +kernel)
theorem fg_89 : (Jvm.Cond.eq (Jvm.Term.elem (Jvm.Term.static "java/lang/Integer" "DigitOnes" "[B") (Jvm.Term.int (57 : Int32))) (Jvm.Term.int (55 : Int32))) ∈ flatC (Jvm.Cond.and given_1 narrow_1) := List.mem_of_getElem? (i := 89) (by decide +kernel)
theorem fg_90 : (Jvm.Cond.eq (Jvm.Term.elem (Jvm.Term.static "java/lang/Integer" "DigitOnes" "[B") (Jvm.Term.int (58 : Int32))) (Jvm.Term.int (56 : Int32))) ∈ flatC (Jvm.Cond.and given_1 narrow_1) := List.mem_of_getElem? (i := 90) (by decide +kernel)
theorem fg_91 : (Jvm.Cond.eq (Jvm.Term.elem (Jvm.Term.static "java/lang/Integer" "DigitOnes" "[B") (Jvm.Term.int (59 : Int32))) (Jvm.Term.int (57 : Int32))) ∈ flatC (Jvm.Cond.and given_1 narrow_1) := List.mem_of_getElem? (i := 91) (by decide +kernel)
theorem fg_92 : (Jvm.Cond.eq (Jvm.Term.elem (Jvm.Term.static "java/lang/Integer" "DigitOnes" "[B") (Jvm.Term.int (60 : Int32))) (Jvm.Term.int (48 : Int32))) ∈ flatC (Jvm.Cond.and given_1 narrow_1) := List.mem_of_getElem? (i := 92) (by decide +kernel)
theorem fg_93 : (Jvm.Cond.eq (Jvm.Term.elem (Jvm.Term.static "java/lang/Integer" "DigitOnes" "[B") (Jvm.Term.int (61 : Int32))) (Jvm.Term.int (49 : Int32))) ∈ flatC (Jvm.Cond.and given_1 narrow_1) := List.mem_of_getElem? (i := 93) (by decide +kernel)
theorem fg_94 : (Jvm.Cond.eq (Jvm.Term.elem (Jvm.Term.static "java/lang/Integer" "DigitOnes" "[B") (Jvm.Term.int (62 : Int32))) (Jvm.Term.int (50 : Int32))) ∈ flatC (Jvm.Cond.and given_1 narrow_1) := List.mem_of_getElem? (i := 94) (by decide +kernel)
theorem fg_95 : (Jvm.Cond.eq (Jvm.Term.elem (Jvm.Term.static "java/lang/Integer" "DigitOnes" "[B") (Jvm.Term.int (63 : Int32))) (Jvm.Term.int (51 : Int32))) ∈ flatC (Jvm.Cond.and given_1 narrow_1) := List.mem_of_getElem? (i := 95) (by decide +kernel)
theorem fg_96 : (Jvm.Cond.eq (Jvm.Term.elem (Jvm.Term.static "java/lang/Integer" "DigitOnes" "[B") (Jvm.Term.int (64 : Int32))) (Jvm.Term.int (52 : Int32))) ∈ flatC (Jvm.Cond.and given_1 narrow_1) := List.mem_of_getElem? (i := 96) (by decide +kernel)
theorem fg_97 : (Jvm.Cond.eq (Jvm.Term.elem (Jvm.Term.static "java/lang/Integer" "DigitOnes" "[B") (Jvm.Term.int (65 : Int32))) (Jvm.Term.int (53 : Int32))) ∈ flatC (Jvm.Cond.and given_1 narrow_1) := List.mem_of_getElem? (i := 97) (by decide +kernel)
theorem fg_98 : (Jvm.Cond.eq (Jvm.Term.elem (Jvm.Term.static "java/lang/Integer" "DigitOnes" "[B") (Jvm.Term.int (66 : Int32))) (Jvm.Term.int (54 : Int32))) ∈ flatC (Jvm.Cond.and given_1 narrow_1) := List.mem_of_getElem? (i := 98) (by decide +kernel)
theorem fg_99 : (Jvm.Cond.eq (Jvm.Term.elem (Jvm.Term.static "java/lang/Integer" "DigitOnes" "[B") (Jvm.Term.int (67 : Int32))) (Jvm.Term.int (55 : Int32))) ∈ flatC (Jvm.Cond.and given_1 narrow_1) := List.mem_of_getElem? (i := 99) (by decide +kernel)
theorem fg_100 : (Jvm.Cond.eq (Jvm.Term.elem (Jvm.Term.static "java/lang/Integer" "DigitOnes" "[B") (Jvm.Term.int (68 : Int32))) (Jvm.Term.int (56 : Int32))) ∈ flatC (Jvm.Cond.and given_1 narrow_1) := List.mem_of_getElem? (i := 100) (by decide +kernel)
theorem fg_101 : (Jvm.Cond.eq (Jvm.Term.elem (Jvm.Term.static "java/lang/Integer" "DigitOnes" "[B") (Jvm.Term.int (69 : Int32))) (Jvm.Term.int (57 : Int32))) ∈ flatC (Jvm.Cond.and given_1 narrow_1) := List.mem_of_getElem? (i := 101) (by decide +kernel)
theorem fg_102 : (Jvm.Cond.eq (Jvm.Term.elem (Jvm.Term.static "java/lang/Integer" "DigitOnes" "[B") (Jvm.Term.int (70 : Int32))) (Jvm.Term.int (48 : Int32))) ∈ flatC (Jvm.Cond.and given_1 narrow_1) := List.mem_of_getElem? (i := 102) (by decide +kernel)
theorem fg_103 : (Jvm.Cond.eq (Jvm.Term.elem (Jvm.Term.static "java/lang/Integer" "DigitOnes" "[B") (Jvm.Term.int (71 : Int32))) (Jvm.Term.int (49 : Int32))) ∈ flatC (Jvm.Cond.and given_1 narrow_1) := List.mem_of_getElem? (i := 103) (by decide +kernel)
theorem fg_104 : (Jvm.Cond.eq (Jvm.Term.elem (Jvm.Term.static "java/lang/Integer" "DigitOnes" "[B") (Jvm.Term.int (72 : Int32))) (Jvm.Term.int (50 : Int32))) ∈ flatC (Jvm.Cond.and given_1 narrow_1) := List.mem_of_getElem? (i := 104) (by decide +kernel)
theorem fg_105 : (Jvm.Cond.eq (Jvm.Term.elem (Jvm.Term.static "java/lang/Integer" "DigitOnes" "[B") (Jvm.Term.int (73 : Int32))) (Jvm.Term.int (51 : Int32))) ∈ flatC (Jvm.Cond.and given_1 narrow_1) := List.mem_of_getElem? (i := 105) (by decide +kernel)
theorem fg_106 : (Jvm.Cond.eq (Jvm.Term.elem (Jvm.Term.static "java/lang/Integer" "DigitOnes" "[B") (Jvm.Term.int (74 : Int32))) (Jvm.Term.int (52 : Int32))) ∈ flatC (Jvm.Cond.and given_1 narrow_1) := List.mem_of_getElem? (i := 106) (by decide +kernel)
theorem fg_107 : (Jvm.Cond.eq (Jvm.Term.elem (Jvm.Term.static "java/lang/Integer" "DigitOnes" "[B") (Jvm.Term.int (75 : Int32))) (Jvm.Term.int (53 : Int32))) ∈ flatC (Jvm.Cond.and given_1 narrow_1) := List.mem_of_getElem? (i := 107) (by decide +kernel)
theorem fg_108 : (Jvm.Cond.eq (Jvm.Term.elem (Jvm.Term.static "java/lang/Integer" "DigitOnes" "[B") (Jvm.Term.int (76 : Int32))) (Jvm.Term.int (54 : Int32))) ∈ flatC (Jvm.Cond.and given_1 narrow_1) := List.mem_of_getElem? (i := 108) (by decide +kernel)
theorem fg_109 : (Jvm.Cond.eq (Jvm.Term.elem (Jvm.Term.static "java/lang/Integer" "DigitOnes" "[B") (Jvm.Term.int (77 : Int32))) (Jvm.Term.int (55 : Int32))) ∈ flatC (Jvm.Cond.and given_1 narrow_1) := List.mem_of_getElem? (i := 109) (by decide +kernel)
theorem fg_110 : (Jvm.Cond.eq (Jvm.Term.elem (Jvm.Term.static "java/lang/Integer" "DigitOnes" "[B") (Jvm.Term.int (78 : Int32))) (Jvm.Term.int (56 : Int32))) ∈ flatC (Jvm.Cond.and given_1 narrow_1) := List.mem_of_getElem? (i := 110) (by decide +kernel)
theorem fg_111 : (Jvm.Cond.eq (Jvm.Term.elem (Jvm.Term.static "java/lang/Integer" "DigitOnes" "[B") (Jvm.Term.int (79 : Int32))) (Jvm.Term.int (57 : Int32))) ∈ flatC (Jvm.Cond.and given_1 narrow_1) := List.mem_of_getElem? (i := 111) (by decide +kernel)
theorem fg_112 : (Jvm.Cond.eq (Jvm.Term.elem (Jvm.Term.static "java/lang/Integer" "DigitOnes" "[B") (Jvm.Term.int (80 : Int32))) (Jvm.Term.int (48 : Int32))) ∈ flatC (Jvm.Cond.and given_1 narrow_1) := List.mem_of_getElem? (i := 112) (by decide +kernel)
theorem fg_113 : (Jvm.Cond.eq (Jvm.Term.elem (Jvm.Term.static "java/lang/Integer" "DigitOnes" "[B") (Jvm.Term.int (81 : Int32))) (Jvm.Term.int (49 : Int32))) ∈ flatC (Jvm.Cond.and given_1 narrow_1) := List.mem_of_getElem? (i := 113) (by decide +kernel)
theorem fg_114 : (Jvm.Cond.eq (Jvm.Term.elem (Jvm.Term.static "java/lang/Integer" "DigitOnes" "[B") (Jvm.Term.int (82 : Int32))) (Jvm.Term.int (50 : Int32))) ∈ flatC (Jvm.Cond.and given_1 narrow_1) := List.mem_of_getElem? (i := 114) (by decide +kernel)
theorem fg_115 : (Jvm.Cond.eq (Jvm.Term.elem (Jvm.Term.static "java/lang/Integer" "DigitOnes" "[B") (Jvm.Term.int (83 : Int32))) (Jvm.Term.int (51 : Int32))) ∈ flatC (Jvm.Cond.and given_1 narrow_1) := List.mem_of_getElem? (i := 115) (by decide +kernel)
theorem fg_116 : (Jvm.Cond.eq (Jvm.Term.elem (Jvm.Term.static "java/lang/Integer" "DigitOnes" "[B") (Jvm.Term.int (84 : Int32))) (Jvm.Term.int (52 : Int32))) ∈ flatC (Jvm.Cond.and given_1 narrow_1) := List.mem_of_getElem? (i := 116) (by decide +kernel)
theorem fg_117 : (Jvm.Cond.eq (Jvm.Term.elem (Jvm.Term.static "java/lang/Integer" "DigitOnes" "[B") (Jvm.Term.int (85 : Int32))) (Jvm.Term.int (53 : Int32))) ∈ flatC (Jvm.Cond.and given_1 narrow_1) := List.mem_of_getElem? (i := 117) (by decide +kernel)
theorem fg_118 : (Jvm.Cond.eq (Jvm.Term.elem (Jvm.Term.static "java/lang/Integer" "DigitOnes" "[B") (Jvm.Term.int (86 : Int32))) (Jvm.Term.int (54 : Int32))) ∈ flatC (Jvm.Cond.and given_1 narrow_1) := List.mem_of_getElem? (i := 118) (by decide +kernel)
theorem fg_119 : (Jvm.Cond.eq (Jvm.Term.elem (Jvm.Term.static "java/lang/Integer" "DigitOnes" "[B") (Jvm.Term.int (87 : Int32))) (Jvm.Term.int (55 : Int32))) ∈ flatC (Jvm.Cond.and given_1 narrow_1) := List.mem_of_getElem? (i := 119) (by decide +kernel)
theorem fg_120 : (Jvm.Cond.eq (Jvm.Term.elem (Jvm.Term.static "java/lang/Integer" "DigitOnes" "[B") (Jvm.Term.int (88 : Int32))) (Jvm.Term.int (56 : Int32))) ∈ flatC (Jvm.Cond.and given_1 narrow_1) := List.mem_of_getElem? (i := 120) (by decide +kernel)
theorem fg_121 : (Jvm.Cond.eq (Jvm.Term.elem (Jvm.Term.static "java/lang/Integer" "DigitOnes" "[B") (Jvm.Term.int (89 : Int32))) (Jvm.Term.int (57 : Int32))) ∈ flatC (Jvm.Cond.and given_1 narrow_1) := List.mem_of_getElem? (i := 121) (by decide +kernel)
theorem fg_122 : (Jvm.Cond.eq (Jvm.Term.elem (Jvm.Term.static "java/lang/Integer" "DigitOnes" "[B") (Jvm.Term.int (90 : Int32))) (Jvm.Term.int (48 : Int32))) ∈ flatC (Jvm.Cond.and given_1 narrow_1) := List.mem_of_getElem? (i := 122) (by decide +kernel)
theorem fg_123 : (Jvm.Cond.eq (Jvm.Term.elem (Jvm.Term.static "java/lang/Integer" "DigitOnes" "[B") (Jvm.Term.int (91 : Int32))) (Jvm.Term.int (49 : Int32))) ∈ flatC (Jvm.Cond.and given_1 narrow_1) := List.mem_of_getElem? (i := 123) (by decide +kernel)
theorem fg_124 : (Jvm.Cond.eq (Jvm.Term.elem (Jvm.Term.static "java/lang/Integer" "DigitOnes" "[B") (Jvm.Term.int (92 : Int32))) (Jvm.Term.int (50 : Int32))) ∈ flatC (Jvm.Cond.and given_1 narrow_1) := List.mem_of_getElem? (i := 124) (by decide +kernel)
theorem fg_125 : (Jvm.Cond.eq (Jvm.Term.elem (Jvm.Term.static "java/lang/Integer" "DigitOnes" "[B") (Jvm.Term.int (93 : Int32))) (Jvm.Term.int (51 : Int32))) ∈ flatC (Jvm.Cond.and given_1 narrow_1) := List.mem_of_getElem? (i := 125) (by decide +kernel)
theorem fg_126 : (Jvm.Cond.eq (Jvm.Term.elem (Jvm.Term.static "java/lang/Integer" "DigitOnes" "[B") (Jvm.Term.int (94 : Int32))) (Jvm.Term.int (52 : Int32))) ∈ flatC (Jvm.Cond.and given_1 narrow_1) := List.mem_of_getElem? (i := 126) (by decide +kernel)
theorem fg_127 : (Jvm.Cond.eq (Jvm.Term.elem (Jvm.Term.static "java/lang/Integer" "DigitOnes" "[B") (Jvm.Term.int (95 : Int32))) (Jvm.Term.int (53 : Int32))) ∈ flatC (Jvm.Cond.and given_1 narrow_1) := List.mem_of_getElem? (i := 127) (by decide +kernel)
theorem fg_128 : (Jvm.Cond.eq (Jvm.Term.elem (Jvm.Term.static "java/lang/Integer" "DigitOnes" "[B") (Jvm.Term.int (96 : Int32))) (Jvm.Term.int (54 : Int32))) ∈ flatC (Jvm.Cond.and given_1 narrow_1) := List.mem_of_getElem? (i := 128) (by decide +kernel)
theorem fg_129 : (Jvm.Cond.eq (Jvm.Term.elem (Jvm.Term.static "java/lang/Integer" "DigitOnes" "[B") (Jvm.Term.int (97 : Int32))) (Jvm.Term.int (55 : Int32))) ∈ flatC (Jvm.Cond.and given_1 narrow_1) := List.mem_of_getElem? (i := 129) (by decide +kernel)
theorem fg_130 : (Jvm.Cond.eq (Jvm.Term.elem (Jvm.Term.static "java/lang/Integer" "DigitOnes" "[B") (Jvm.Term.int (98 : Int32))) (Jvm.Term.int (56 : Int32))) ∈ flatC (Jvm.Cond.and given_1 narrow_1) := List.mem_of_getElem? (i := 130) (by decide +kernel)
theorem fg_131 : (Jvm.Cond.eq (Jvm.Term.elem (Jvm.Term.static "java/lang/Integer" "DigitOnes" "[B") (Jvm.Term.int (99 : Int32))) (Jvm.Term.int (57 : Int32))) ∈ flatC (Jvm.Cond.and given_1 narrow_1) := List.mem_of_getElem? (i := 131) (by decide +kernel)
theorem fw_1105 : (Jvm.Cond.laysStatic "java/lang/Integer" "DigitOnes" "[B") ∈ lw_tbl := tb_5 (List.mem_of_getElem? (i := 145) (by decide +kernel))
theorem fw_28 : (Jvm.Cond.initialized "java/lang/Integer") ∈ lw_tbl := tb_1 (List.mem_of_getElem? (i := 28) (by decide +kernel))
theorem fg_133 : (Jvm.Cond.arrayOf (Jvm.Term.static "java/lang/Integer" "DigitTens" "[B") Jvm.ClassFile.FieldType.byte) ∈ flatC (Jvm.Cond.and given_1 narrow_1) := List.mem_of_getElem? (i := 133) (by decide +kernel)
theorem fg_134 : (Jvm.Cond.eq (Jvm.Term.length (Jvm.Term.static "java/lang/Integer" "DigitTens" "[B")) (Jvm.Term.int (100 : Int32))) ∈ flatC (Jvm.Cond.and given_1 narrow_1) := List.mem_of_getElem? (i := 134) (by decide +kernel)
theorem fg_135 : (Jvm.Cond.eq (Jvm.Term.elem (Jvm.Term.static "java/lang/Integer" "DigitTens" "[B") (Jvm.Term.int (0 : Int32))) (Jvm.Term.int (48 : Int32))) ∈ flatC (Jvm.Cond.and given_1 narrow_1) := List.mem_of_getElem? (i := 135) (by decide +kernel)
theorem fg_136 : (Jvm.Cond.eq (Jvm.Term.elem (Jvm.Term.static "java/lang/Integer" "DigitTens" "[B") (Jvm.Term.int (1 : Int32))) (Jvm.Term.int (48 : Int32))) ∈ flatC (Jvm.Cond.and given_1 narrow_1) := List.mem_of_getElem? (i := 136) (by decide +kernel)
theorem fg_137 : (Jvm.Cond.eq (Jvm.Term.elem (Jvm.Term.static "java/lang/Integer" "DigitTens" "[B") (Jvm.Term.int (2 : Int32))) (Jvm.Term.int (48 : Int32))) ∈ flatC (Jvm.Cond.and given_1 narrow_1) := List.mem_of_getElem? (i := 137) (by decide +kernel)
theorem fg_138 : (Jvm.Cond.eq (Jvm.Term.elem (Jvm.Term.static "java/lang/Integer" "DigitTens" "[B") (Jvm.Term.int (3 : Int32))) (Jvm.Term.int (48 : Int32))) ∈ flatC (Jvm.Cond.and given_1 narrow_1) := List.mem_of_getElem? (i := 138) (by decide +kernel)
theorem fg_139 : (Jvm.Cond.eq (Jvm.Term.elem (Jvm.Term.static "java/lang/Integer" "DigitTens" "[B") (Jvm.Term.int (4 : Int32))) (Jvm.Term.int (48 : Int32))) ∈ flatC (Jvm.Cond.and given_1 narrow_1) := List.mem_of_getElem? (i := 139) (by decide +kernel)
theorem fg_140 : (Jvm.Cond.eq (Jvm.Term.elem (Jvm.Term.static "java/lang/Integer" "DigitTens" "[B") (Jvm.Term.int (5 : Int32))) (Jvm.Term.int (48 : Int32))) ∈ flatC (Jvm.Cond.and given_1 narrow_1) := List.mem_of_getElem? (i := 140) (by decide +kernel)
theorem fg_141 : (Jvm.Cond.eq (Jvm.Term.elem (Jvm.Term.static "java/lang/Integer" "DigitTens" "[B") (Jvm.Term.int (6 : Int32))) (Jvm.Term.int (48 : Int32))) ∈ flatC (Jvm.Cond.and given_1 narrow_1) := List.mem_of_getElem? (i := 141) (by decide +kernel)
theorem fg_142 : (Jvm.Cond.eq (Jvm.Term.elem (Jvm.Term.static "java/lang/Integer" "DigitTens" "[B") (Jvm.Term.int (7 : Int32))) (Jvm.Term.int (48 : Int32))) ∈ flatC (Jvm.Cond.and given_1 narrow_1) := List.mem_of_getElem? (i := 142) (by decide +kernel)
theorem fg_143 : (Jvm.Cond.eq (Jvm.Term.elem (Jvm.Term.static "java/lang/Integer" "DigitTens" "[B") (Jvm.Term.int (8 : Int32))) (Jvm.Term.int (48 : Int32))) ∈ flatC (Jvm.Cond.and given_1 narrow_1) := List.mem_of_getElem? (i := 143) (by decide +kernel)
theorem fg_144 : (Jvm.Cond.eq (Jvm.Term.elem (Jvm.Term.static "java/lang/Integer" "DigitTens" "[B") (Jvm.Term.int (9 : Int32))) (Jvm.Term.int (48 : Int32))) ∈ flatC (Jvm.Cond.and given_1 narrow_1) := List.mem_of_getElem? (i := 144) (by decide +kernel)
theorem fg_145 : (Jvm.Cond.eq (Jvm.Term.elem (Jvm.Term.static "java/lang/Integer" "DigitTens" "[B") (Jvm.Term.int (10 : Int32))) (Jvm.Term.int (49 : Int32))) ∈ flatC (Jvm.Cond.and given_1 narrow_1) := List.mem_of_getElem? (i := 145) (by decide +kernel)
theorem fg_146 : (Jvm.Cond.eq (Jvm.Term.elem (Jvm.Term.static "java/lang/Integer" "DigitTens" "[B") (Jvm.Term.int (11 : Int32))) (Jvm.Term.int (49 : Int32))) ∈ flatC (Jvm.Cond.and given_1 narrow_1) := List.mem_of_getElem? (i := 146) (by decide +kernel)
theorem fg_147 : (Jvm.Cond.eq (Jvm.Term.elem (Jvm.Term.static "java/lang/Integer" "DigitTens" "[B") (Jvm.Term.int (12 : Int32))) (Jvm.Term.int (49 : Int32))) ∈ flatC (Jvm.Cond.and given_1 narrow_1) := List.mem_of_getElem? (i := 147) (by decide +kernel)
theorem fg_148 : (Jvm.Cond.eq (Jvm.Term.elem (Jvm.Term.static "java/lang/Integer" "DigitTens" "[B") (Jvm.Term.int (13 : Int32))) (Jvm.Term.int (49 : Int32))) ∈ flatC (Jvm.Cond.and given_1 narrow_1) := List.mem_of_getElem? (i := 148) (by decide +kernel)
theorem fg_149 : (Jvm.Cond.eq (Jvm.Term.elem (Jvm.Term.static "java/lang/Integer" "DigitTens" "[B") (Jvm.Term.int (14 : Int32))) (Jvm.Term.int (49 : Int32))) ∈ flatC (Jvm.Cond.and given_1 narrow_1) := List.mem_of_getElem? (i := 149) (by decide +kernel)
theorem fg_150 : (Jvm.Cond.eq (Jvm.Term.elem (Jvm.Term.static "java/lang/Integer" "DigitTens" "[B") (Jvm.Term.int (15 : Int32))) (Jvm.Term.int (49 : Int32))) ∈ flatC (Jvm.Cond.and given_1 narrow_1) := List.mem_of_getElem? (i := 150) (by decide +kernel)
theorem fg_151 : (Jvm.Cond.eq (Jvm.Term.elem (Jvm.Term.static "java/lang/Integer" "DigitTens" "[B") (Jvm.Term.int (16 : Int32))) (Jvm.Term.int (49 : Int32))) ∈ flatC (Jvm.Cond.and given_1 narrow_1) := List.mem_of_getElem? (i := 151) (by decide +kernel)
theorem fg_152 : (Jvm.Cond.eq (Jvm.Term.elem (Jvm.Term.static "java/lang/Integer" "DigitTens" "[B") (Jvm.Term.int (17 : Int32))) (Jvm.Term.int (49 : Int32))) ∈ flatC (Jvm.Cond.and given_1 narrow_1) := List.mem_of_getElem? (i := 152) (by decide +kernel)
theorem fg_153 : (Jvm.Cond.eq (Jvm.Term.elem (Jvm.Term.static "java/lang/Integer" "DigitTens" "[B") (Jvm.Term.int (18 : Int32))) (Jvm.Term.int (49 : Int32))) ∈ flatC (Jvm.Cond.and given_1 narrow_1) := List.mem_of_getElem? (i := 153) (by decide +kernel)
theorem fg_154 : (Jvm.Cond.eq (Jvm.Term.elem (Jvm.Term.static "java/lang/Integer" "DigitTens" "[B") (Jvm.Term.int (19 : Int32))) (Jvm.Term.int (49 : Int32))) ∈ flatC (Jvm.Cond.and given_1 narrow_1) := List.mem_of_getElem? (i := 154) (by decide +kernel)
theorem fg_155 : (Jvm.Cond.eq (Jvm.Term.elem (Jvm.Term.static "java/lang/Integer" "DigitTens" "[B") (Jvm.Term.int (20 : Int32))) (Jvm.Term.int (50 : Int32))) ∈ flatC (Jvm.Cond.and given_1 narrow_1) := List.mem_of_getElem? (i := 155) (by decide +kernel)
theorem fg_156 : (Jvm.Cond.eq (Jvm.Term.elem (Jvm.Term.static "java/lang/Integer" "DigitTens" "[B") (Jvm.Term.int (21 : Int32))) (Jvm.Term.int (50 : Int32))) ∈ flatC (Jvm.Cond.and given_1 narrow_1) := List.mem_of_getElem? (i := 156) (by decide +kernel)
theorem fg_157 : (Jvm.Cond.eq (Jvm.Term.elem (Jvm.Term.static "java/lang/Integer" "DigitTens" "[B") (Jvm.Term.int (22 : Int32))) (Jvm.Term.int (50 : Int32))) ∈ flatC (Jvm.Cond.and given_1 narrow_1) := List.mem_of_getElem? (i := 157) (by decide +kernel)
theorem fg_158 : (Jvm.Cond.eq (Jvm.Term.elem (Jvm.Term.static "java/lang/Integer" "DigitTens" "[B") (Jvm.Term.int (23 : Int32))) (Jvm.Term.int (50 : Int32))) ∈ flatC (Jvm.Cond.and given_1 narrow_1) := List.mem_of_getElem? (i := 158) (by decide +kernel)
theorem fg_159 : (Jvm.Cond.eq (Jvm.Term.elem (Jvm.Term.static "java/lang/Integer" "DigitTens" "[B") (Jvm.Term.int (24 : Int32))) (Jvm.Term.int (50 : Int32))) ∈ flatC (Jvm.Cond.and given_1 narrow_1) := List.mem_of_getElem? (i := 159) (by decide +kernel)
theorem fg_160 : (Jvm.Cond.eq (Jvm.Term.elem (Jvm.Term.static "java/lang/Integer" "DigitTens" "[B") (Jvm.Term.int (25 : Int32))) (Jvm.Term.int (50 : Int32))) ∈ flatC (Jvm.Cond.and given_1 narrow_1) := List.mem_of_getElem? (i := 160) (by decide +kernel)
theorem fg_161 : (Jvm.Cond.eq (Jvm.Term.elem (Jvm.Term.static "java/lang/Integer" "DigitTens" "[B") (Jvm.Term.int (26 : Int32))) (Jvm.Term.int (50 : Int32))) ∈ flatC (Jvm.Cond.and given_1 narrow_1) := List.mem_of_getElem? (i := 161) (by decide +kernel)
theorem fg_162 : (Jvm.Cond.eq (Jvm.Term.elem (Jvm.Term.static "java/lang/Integer" "DigitTens" "[B") (Jvm.Term.int (27 : Int32))) (Jvm.Term.int (50 : Int32))) ∈ flatC (Jvm.Cond.and given_1 narrow_1) := List.mem_of_getElem? (i := 162) (by decide +kernel)
theorem fg_163 : (Jvm.Cond.eq (Jvm.Term.elem (Jvm.Term.static "java/lang/Integer" "DigitTens" "[B") (Jvm.Term.int (28 : Int32))) (Jvm.Term.int (50 : Int32))) ∈ flatC (Jvm.Cond.and given_1 narrow_1) := List.mem_of_getElem? (i := 163) (by decide +kernel)
end
section
-- 9o1d.given.lean.txt
theorem fg_164 : (Jvm.Cond.eq (Jvm.Term.elem (Jvm.Term.static "java/lang/Integer" "DigitTens" "[B") (Jvm.Term.int (29 : Int32))) (Jvm.Term.int (50 : Int32))) ∈ flatC (Jvm.Cond.and given_1 narrow_1) := List.mem_of_getElem? (i := 164) (by decide +kernel)
theorem fg_165 : (Jvm.Cond.eq (Jvm.Term.elem (Jvm.Term.static "java/lang/Integer" "DigitTens" "[B") (Jvm.Term.int (30 : Int32))) (Jvm.Term.int (51 : Int32))) ∈ flatC (Jvm.Cond.and given_1 narrow_1) := List.mem_of_getElem? (i := 165) (by decide +kernel)
theorem fg_166 : (Jvm.Cond.eq (Jvm.Term.elem (Jvm.Term.static "java/lang/Integer" "DigitTens" "[B") (Jvm.Term.int (31 : Int32))) (Jvm.Term.int (51 : Int32))) ∈ flatC (Jvm.Cond.and given_1 narrow_1) := List.mem_of_getElem? (i := 166) (by decide +kernel)
theorem fg_167 : (Jvm.Cond.eq (Jvm.Term.elem (Jvm.Term.static "java/lang/Integer" "DigitTens" "[B") (Jvm.Term.int (32 : Int32))) (Jvm.Term.int (51 : Int32))) ∈ flatC (Jvm.Cond.and given_1 narrow_1) := List.mem_of_getElem? (i := 167) (by decide +kernel)
theorem fg_168 : (Jvm.Cond.eq (Jvm.Term.elem (Jvm.Term.static "java/lang/Integer" "DigitTens" "[B") (Jvm.Term.int (33 : Int32))) (Jvm.Term.int (51 : Int32))) ∈ flatC (Jvm.Cond.and given_1 narrow_1) := List.mem_of_getElem? (i := 168) (by decide +kernel)
theorem fg_169 : (Jvm.Cond.eq (Jvm.Term.elem (Jvm.Term.static "java/lang/Integer" "DigitTens" "[B") (Jvm.Term.int (34 : Int32))) (Jvm.Term.int (51 : Int32))) ∈ flatC (Jvm.Cond.and given_1 narrow_1) := List.mem_of_getElem? (i := 169) (by decide +kernel)
theorem fg_170 : (Jvm.Cond.eq (Jvm.Term.elem (Jvm.Term.static "java/lang/Integer" "DigitTens" "[B") (Jvm.Term.int (35 : Int32))) (Jvm.Term.int (51 : Int32))) ∈ flatC (Jvm.Cond.and given_1 narrow_1) := List.mem_of_getElem? (i := 170) (by decide +kernel)
theorem fg_171 : (Jvm.Cond.eq (Jvm.Term.elem (Jvm.Term.static "java/lang/Integer" "DigitTens" "[B") (Jvm.Term.int (36 : Int32))) (Jvm.Term.int (51 : Int32))) ∈ flatC (Jvm.Cond.and given_1 narrow_1) := List.mem_of_getElem? (i := 171) (by decide +kernel)
theorem fg_172 : (Jvm.Cond.eq (Jvm.Term.elem (Jvm.Term.static "java/lang/Integer" "DigitTens" "[B") (Jvm.Term.int (37 : Int32))) (Jvm.Term.int (51 : Int32))) ∈ flatC (Jvm.Cond.and given_1 narrow_1) := List.mem_of_getElem? (i := 172) (by decide +kernel)
theorem fg_173 : (Jvm.Cond.eq (Jvm.Term.elem (Jvm.Term.static "java/lang/Integer" "DigitTens" "[B") (Jvm.Term.int (38 : Int32))) (Jvm.Term.int (51 : Int32))) ∈ flatC (Jvm.Cond.and given_1 narrow_1) := List.mem_of_getElem? (i := 173) (by decide +kernel)
theorem fg_174 : (Jvm.Cond.eq (Jvm.Term.elem (Jvm.Term.static "java/lang/Integer" "DigitTens" "[B") (Jvm.Term.int (39 : Int32))) (Jvm.Term.int (51 : Int32))) ∈ flatC (Jvm.Cond.and given_1 narrow_1) := List.mem_of_getElem? (i := 174) (by decide +kernel)
theorem fg_175 : (Jvm.Cond.eq (Jvm.Term.elem (Jvm.Term.static "java/lang/Integer" "DigitTens" "[B") (Jvm.Term.int (40 : Int32))) (Jvm.Term.int (52 : Int32))) ∈ flatC (Jvm.Cond.and given_1 narrow_1) := List.mem_of_getElem? (i := 175) (by decide +kernel)
theorem fg_176 : (Jvm.Cond.eq (Jvm.Term.elem (Jvm.Term.static "java/lang/Integer" "DigitTens" "[B") (Jvm.Term.int (41 : Int32))) (Jvm.Term.int (52 : Int32))) ∈ flatC (Jvm.Cond.and given_1 narrow_1) := List.mem_of_getElem? (i := 176) (by decide +kernel)
theorem fg_177 : (Jvm.Cond.eq (Jvm.Term.elem (Jvm.Term.static "java/lang/Integer" "DigitTens" "[B") (Jvm.Term.int (42 : Int32))) (Jvm.Term.int (52 : Int32))) ∈ flatC (Jvm.Cond.and given_1 narrow_1) := List.mem_of_getElem? (i := 177) (by decide +kernel)
theorem fg_178 : (Jvm.Cond.eq (Jvm.Term.elem (Jvm.Term.static "java/lang/Integer" "DigitTens" "[B") (Jvm.Term.int (43 : Int32))) (Jvm.Term.int (52 : Int32))) ∈ flatC (Jvm.Cond.and given_1 narrow_1) := List.mem_of_getElem? (i := 178) (by decide +kernel)
theorem fg_179 : (Jvm.Cond.eq (Jvm.Term.elem (Jvm.Term.static "java/lang/Integer" "DigitTens" "[B") (Jvm.Term.int (44 : Int32))) (Jvm.Term.int (52 : Int32))) ∈ flatC (Jvm.Cond.and given_1 narrow_1) := List.mem_of_getElem? (i := 179) (by decide +kernel)
theorem fg_180 : (Jvm.Cond.eq (Jvm.Term.elem (Jvm.Term.static "java/lang/Integer" "DigitTens" "[B") (Jvm.Term.int (45 : Int32))) (Jvm.Term.int (52 : Int32))) ∈ flatC (Jvm.Cond.and given_1 narrow_1) := List.mem_of_getElem? (i := 180) (by decide +kernel)
theorem fg_181 : (Jvm.Cond.eq (Jvm.Term.elem (Jvm.Term.static "java/lang/Integer" "DigitTens" "[B") (Jvm.Term.int (46 : Int32))) (Jvm.Term.int (52 : Int32))) ∈ flatC (Jvm.Cond.and given_1 narrow_1) := List.mem_of_getElem? (i := 181) (by decide +kernel)
theorem fg_182 : (Jvm.Cond.eq (Jvm.Term.elem (Jvm.Term.static "java/lang/Integer" "DigitTens" "[B") (Jvm.Term.int (47 : Int32))) (Jvm.Term.int (52 : Int32))) ∈ flatC (Jvm.Cond.and given_1 narrow_1) := List.mem_of_getElem? (i := 182) (by decide +kernel)
theorem fg_183 : (Jvm.Cond.eq (Jvm.Term.elem (Jvm.Term.static "java/lang/Integer" "DigitTens" "[B") (Jvm.Term.int (48 : Int32))) (Jvm.Term.int (52 : Int32))) ∈ flatC (Jvm.Cond.and given_1 narrow_1) := List.mem_of_getElem? (i := 183) (by decide +kernel)
theorem fg_184 : (Jvm.Cond.eq (Jvm.Term.elem (Jvm.Term.static "java/lang/Integer" "DigitTens" "[B") (Jvm.Term.int (49 : Int32))) (Jvm.Term.int (52 : Int32))) ∈ flatC (Jvm.Cond.and given_1 narrow_1) := List.mem_of_getElem? (i := 184) (by decide +kernel)
theorem fg_185 : (Jvm.Cond.eq (Jvm.Term.elem (Jvm.Term.static "java/lang/Integer" "DigitTens" "[B") (Jvm.Term.int (50 : Int32))) (Jvm.Term.int (53 : Int32))) ∈ flatC (Jvm.Cond.and given_1 narrow_1) := List.mem_of_getElem? (i := 185) (by decide +kernel)
theorem fg_186 : (Jvm.Cond.eq (Jvm.Term.elem (Jvm.Term.static "java/lang/Integer" "DigitTens" "[B") (Jvm.Term.int (51 : Int32))) (Jvm.Term.int (53 : Int32))) ∈ flatC (Jvm.Cond.and given_1 narrow_1) := List.mem_of_getElem? (i := 186) (by decide +kernel)
theorem fg_187 : (Jvm.Cond.eq (Jvm.Term.elem (Jvm.Term.static "java/lang/Integer" "DigitTens" "[B") (Jvm.Term.int (52 : Int32))) (Jvm.Term.int (53 : Int32))) ∈ flatC (Jvm.Cond.and given_1 narrow_1) := List.mem_of_getElem? (i := 187) (by decide +kernel)
theorem fg_188 : (Jvm.Cond.eq (Jvm.Term.elem (Jvm.Term.static "java/lang/Integer" "DigitTens" "[B") (Jvm.Term.int (53 : Int32))) (Jvm.Term.int (53 : Int32))) ∈ flatC (Jvm.Cond.and given_1 narrow_1) := List.mem_of_getElem? (i := 188) (by decide +kernel)
theorem fg_189 : (Jvm.Cond.eq (Jvm.Term.elem (Jvm.Term.static "java/lang/Integer" "DigitTens" "[B") (Jvm.Term.int (54 : Int32))) (Jvm.Term.int (53 : Int32))) ∈ flatC (Jvm.Cond.and given_1 narrow_1) := List.mem_of_getElem? (i := 189) (by decide +kernel)
theorem fg_190 : (Jvm.Cond.eq (Jvm.Term.elem (Jvm.Term.static "java/lang/Integer" "DigitTens" "[B") (Jvm.Term.int (55 : Int32))) (Jvm.Term.int (53 : Int32))) ∈ flatC (Jvm.Cond.and given_1 narrow_1) := List.mem_of_getElem? (i := 190) (by decide +kernel)
theorem fg_191 : (Jvm.Cond.eq (Jvm.Term.elem (Jvm.Term.static "java/lang/Integer" "DigitTens" "[B") (Jvm.Term.int (56 : Int32))) (Jvm.Term.int (53 : Int32))) ∈ flatC (Jvm.Cond.and given_1 narrow_1) := List.mem_of_getElem? (i := 191) (by decide +kernel)
theorem fg_192 : (Jvm.Cond.eq (Jvm.Term.elem (Jvm.Term.static "java/lang/Integer" "DigitTens" "[B") (Jvm.Term.int (57 : Int32))) (Jvm.Term.int (53 : Int32))) ∈ flatC (Jvm.Cond.and given_1 narrow_1) := List.mem_of_getElem? (i := 192) (by decide +kernel)
theorem fg_193 : (Jvm.Cond.eq (Jvm.Term.elem (Jvm.Term.static "java/lang/Integer" "DigitTens" "[B") (Jvm.Term.int (58 : Int32))) (Jvm.Term.int (53 : Int32))) ∈ flatC (Jvm.Cond.and given_1 narrow_1) := List.mem_of_getElem? (i := 193) (by decide +kernel)
theorem fg_194 : (Jvm.Cond.eq (Jvm.Term.elem (Jvm.Term.static "java/lang/Integer" "DigitTens" "[B") (Jvm.Term.int (59 : Int32))) (Jvm.Term.int (53 : Int32))) ∈ flatC (Jvm.Cond.and given_1 narrow_1) := List.mem_of_getElem? (i := 194) (by decide +kernel)
theorem fg_195 : (Jvm.Cond.eq (Jvm.Term.elem (Jvm.Term.static "java/lang/Integer" "DigitTens" "[B") (Jvm.Term.int (60 : Int32))) (Jvm.Term.int (54 : Int32))) ∈ flatC (Jvm.Cond.and given_1 narrow_1) := List.mem_of_getElem? (i := 195) (by decide +kernel)
theorem fg_196 : (Jvm.Cond.eq (Jvm.Term.elem (Jvm.Term.static "java/lang/Integer" "DigitTens" "[B") (Jvm.Term.int (61 : Int32))) (Jvm.Term.int (54 : Int32))) ∈ flatC (Jvm.Cond.and given_1 narrow_1) := List.mem_of_getElem? (i := 196) (by decide +kernel)
theorem fg_197 : (Jvm.Cond.eq (Jvm.Term.elem (Jvm.Term.static "java/lang/Integer" "DigitTens" "[B") (Jvm.Term.int (62 : Int32))) (Jvm.Term.int (54 : Int32))) ∈ flatC (Jvm.Cond.and given_1 narrow_1) := List.mem_of_getElem? (i := 197) (by decide +kernel)
theorem fg_198 : (Jvm.Cond.eq (Jvm.Term.elem (Jvm.Term.static "java/lang/Integer" "DigitTens" "[B") (Jvm.Term.int (63 : Int32))) (Jvm.Term.int (54 : Int32))) ∈ flatC (Jvm.Cond.and given_1 narrow_1) := List.mem_of_getElem? (i := 198) (by decide +kernel)
theorem fg_199 : (Jvm.Cond.eq (Jvm.Term.elem (Jvm.Term.static "java/lang/Integer" "DigitTens" "[B") (Jvm.Term.int (64 : Int32))) (Jvm.Term.int (54 : Int32))) ∈ flatC (Jvm.Cond.and given_1 narrow_1) := List.mem_of_getElem? (i := 199) (by decide +kernel)
theorem fg_200 : (Jvm.Cond.eq (Jvm.Term.elem (Jvm.Term.static "java/lang/Integer" "DigitTens" "[B") (Jvm.Term.int (65 : Int32))) (Jvm.Term.int (54 : Int32))) ∈ flatC (Jvm.Cond.and given_1 narrow_1) := List.mem_of_getElem? (i := 200) (by decide +kernel)
theorem fg_201 : (Jvm.Cond.eq (Jvm.Term.elem (Jvm.Term.static "java/lang/Integer" "DigitTens" "[B") (Jvm.Term.int (66 : Int32))) (Jvm.Term.int (54 : Int32))) ∈ flatC (Jvm.Cond.and given_1 narrow_1) := List.mem_of_getElem? (i := 201) (by decide +kernel)
theorem fg_202 : (Jvm.Cond.eq (Jvm.Term.elem (Jvm.Term.static "java/lang/Integer" "DigitTens" "[B") (Jvm.Term.int (67 : Int32))) (Jvm.Term.int (54 : Int32))) ∈ flatC (Jvm.Cond.and given_1 narrow_1) := List.mem_of_getElem? (i := 202) (by decide +kernel)
theorem fg_203 : (Jvm.Cond.eq (Jvm.Term.elem (Jvm.Term.static "java/lang/Integer" "DigitTens" "[B") (Jvm.Term.int (68 : Int32))) (Jvm.Term.int (54 : Int32))) ∈ flatC (Jvm.Cond.and given_1 narrow_1) := List.mem_of_getElem? (i := 203) (by decide +kernel)
theorem fg_204 : (Jvm.Cond.eq (Jvm.Term.elem (Jvm.Term.static "java/lang/Integer" "DigitTens" "[B") (Jvm.Term.int (69 : Int32))) (Jvm.Term.int (54 : Int32))) ∈ flatC (Jvm.Cond.and given_1 narrow_1) := List.mem_of_getElem? (i := 204) (by decide +kernel)
theorem fg_205 : (Jvm.Cond.eq (Jvm.Term.elem (Jvm.Term.static "java/lang/Integer" "DigitTens" "[B") (Jvm.Term.int (70 : Int32))) (Jvm.Term.int (55 : Int32))) ∈ flatC (Jvm.Cond.and given_1 narrow_1) := List.mem_of_getElem? (i := 205) (by decide +kernel)
theorem fg_206 : (Jvm.Cond.eq (Jvm.Term.elem (Jvm.Term.static "java/lang/Integer" "DigitTens" "[B") (Jvm.Term.int (71 : Int32))) (Jvm.Term.int (55 : Int32))) ∈ flatC (Jvm.Cond.and given_1 narrow_1) := List.mem_of_getElem? (i := 206) (by decide +kernel)
theorem fg_207 : (Jvm.Cond.eq (Jvm.Term.elem (Jvm.Term.static "java/lang/Integer" "DigitTens" "[B") (Jvm.Term.int (72 : Int32))) (Jvm.Term.int (55 : Int32))) ∈ flatC (Jvm.Cond.and given_1 narrow_1) := List.mem_of_getElem? (i := 207) (by decide +kernel)
theorem fg_208 : (Jvm.Cond.eq (Jvm.Term.elem (Jvm.Term.static "java/lang/Integer" "DigitTens" "[B") (Jvm.Term.int (73 : Int32))) (Jvm.Term.int (55 : Int32))) ∈ flatC (Jvm.Cond.and given_1 narrow_1) := List.mem_of_getElem? (i := 208) (by decide +kernel)
theorem fg_209 : (Jvm.Cond.eq (Jvm.Term.elem (Jvm.Term.static "java/lang/Integer" "DigitTens" "[B") (Jvm.Term.int (74 : Int32))) (Jvm.Term.int (55 : Int32))) ∈ flatC (Jvm.Cond.and given_1 narrow_1) := List.mem_of_getElem? (i := 209) (by decide +kernel)
theorem fg_210 : (Jvm.Cond.eq (Jvm.Term.elem (Jvm.Term.static "java/lang/Integer" "DigitTens" "[B") (Jvm.Term.int (75 : Int32))) (Jvm.Term.int (55 : Int32))) ∈ flatC (Jvm.Cond.and given_1 narrow_1) := List.mem_of_getElem? (i := 210) (by decide +kernel)
theorem fg_211 : (Jvm.Cond.eq (Jvm.Term.elem (Jvm.Term.static "java/lang/Integer" "DigitTens" "[B") (Jvm.Term.int (76 : Int32))) (Jvm.Term.int (55 : Int32))) ∈ flatC (Jvm.Cond.and given_1 narrow_1) := List.mem_of_getElem? (i := 211) (by decide +kernel)
theorem fg_212 : (Jvm.Cond.eq (Jvm.Term.elem (Jvm.Term.static "java/lang/Integer" "DigitTens" "[B") (Jvm.Term.int (77 : Int32))) (Jvm.Term.int (55 : Int32))) ∈ flatC (Jvm.Cond.and given_1 narrow_1) := List.mem_of_getElem? (i := 212) (by decide +kernel)
theorem fg_213 : (Jvm.Cond.eq (Jvm.Term.elem (Jvm.Term.static "java/lang/Integer" "DigitTens" "[B") (Jvm.Term.int (78 : Int32))) (Jvm.Term.int (55 : Int32))) ∈ flatC (Jvm.Cond.and given_1 narrow_1) := List.mem_of_getElem? (i := 213) (by decide +kernel)
theorem fg_214 : (Jvm.Cond.eq (Jvm.Term.elem (Jvm.Term.static "java/lang/Integer" "DigitTens" "[B") (Jvm.Term.int (79 : Int32))) (Jvm.Term.int (55 : Int32))) ∈ flatC (Jvm.Cond.and given_1 narrow_1) := List.mem_of_getElem? (i := 214) (by decide +kernel)
theorem fg_215 : (Jvm.Cond.eq (Jvm.Term.elem (Jvm.Term.static "java/lang/Integer" "DigitTens" "[B") (Jvm.Term.int (80 : Int32))) (Jvm.Term.int (56 : Int32))) ∈ flatC (Jvm.Cond.and given_1 narrow_1) := List.mem_of_getElem? (i := 215) (by decide +kernel)
theorem fg_216 : (Jvm.Cond.eq (Jvm.Term.elem (Jvm.Term.static "java/lang/Integer" "DigitTens" "[B") (Jvm.Term.int (81 : Int32))) (Jvm.Term.int (56 : Int32))) ∈ flatC (Jvm.Cond.and given_1 narrow_1) := List.mem_of_getElem? (i := 216) (by decide +kernel)
theorem fg_217 : (Jvm.Cond.eq (Jvm.Term.elem (Jvm.Term.static "java/lang/Integer" "DigitTens" "[B") (Jvm.Term.int (82 : Int32))) (Jvm.Term.int (56 : Int32))) ∈ flatC (Jvm.Cond.and given_1 narrow_1) := List.mem_of_getElem? (i := 217) (by decide +kernel)
theorem fg_218 : (Jvm.Cond.eq (Jvm.Term.elem (Jvm.Term.static "java/lang/Integer" "DigitTens" "[B") (Jvm.Term.int (83 : Int32))) (Jvm.Term.int (56 : Int32))) ∈ flatC (Jvm.Cond.and given_1 narrow_1) := List.mem_of_getElem? (i := 218) (by decide +kernel)
theorem fg_219 : (Jvm.Cond.eq (Jvm.Term.elem (Jvm.Term.static "java/lang/Integer" "DigitTens" "[B") (Jvm.Term.int (84 : Int32))) (Jvm.Term.int (56 : Int32))) ∈ flatC (Jvm.Cond.and given_1 narrow_1) := List.mem_of_getElem? (i := 219) (by decide +kernel)
theorem fg_220 : (Jvm.Cond.eq (Jvm.Term.elem (Jvm.Term.static "java/lang/Integer" "DigitTens" "[B") (Jvm.Term.int (85 : Int32))) (Jvm.Term.int (56 : Int32))) ∈ flatC (Jvm.Cond.and given_1 narrow_1) := List.mem_of_getElem? (i := 220) (by decide +kernel)
theorem fg_221 : (Jvm.Cond.eq (Jvm.Term.elem (Jvm.Term.static "java/lang/Integer" "DigitTens" "[B") (Jvm.Term.int (86 : Int32))) (Jvm.Term.int (56 : Int32))) ∈ flatC (Jvm.Cond.and given_1 narrow_1) := List.mem_of_getElem? (i := 221) (by decide +kernel)
theorem fg_222 : (Jvm.Cond.eq (Jvm.Term.elem (Jvm.Term.static "java/lang/Integer" "DigitTens" "[B") (Jvm.Term.int (87 : Int32))) (Jvm.Term.int (56 : Int32))) ∈ flatC (Jvm.Cond.and given_1 narrow_1) := List.mem_of_getElem? (i := 222) (by decide +kernel)
theorem fg_223 : (Jvm.Cond.eq (Jvm.Term.elem (Jvm.Term.static "java/lang/Integer" "DigitTens" "[B") (Jvm.Term.int (88 : Int32))) (Jvm.Term.int (56 : Int32))) ∈ flatC (Jvm.Cond.and given_1 narrow_1) := List.mem_of_getElem? (i := 223) (by decide +kernel)
theorem fg_224 : (Jvm.Cond.eq (Jvm.Term.elem (Jvm.Term.static "java/lang/Integer" "DigitTens" "[B") (Jvm.Term.int (89 : Int32))) (Jvm.Term.int (56 : Int32))) ∈ flatC (Jvm.Cond.and given_1 narrow_1) := List.mem_of_getElem? (i := 224) (by decide +kernel)
theorem fg_225 : (Jvm.Cond.eq (Jvm.Term.elem (Jvm.Term.static "java/lang/Integer" "DigitTens" "[B") (Jvm.Term.int (90 : Int32))) (Jvm.Term.int (57 : Int32))) ∈ flatC (Jvm.Cond.and given_1 narrow_1) := List.mem_of_getElem? (i := 225) (by decide +kernel)
theorem fg_226 : (Jvm.Cond.eq (Jvm.Term.elem (Jvm.Term.static "java/lang/Integer" "DigitTens" "[B") (Jvm.Term.int (91 : Int32))) (Jvm.Term.int (57 : Int32))) ∈ flatC (Jvm.Cond.and given_1 narrow_1) := List.mem_of_getElem? (i := 226) (by decide +kernel)
theorem fg_227 : (Jvm.Cond.eq (Jvm.Term.elem (Jvm.Term.static "java/lang/Integer" "DigitTens" "[B") (Jvm.Term.int (92 : Int32))) (Jvm.Term.int (57 : Int32))) ∈ flatC (Jvm.Cond.and given_1 narrow_1) := List.mem_of_getElem? (i := 227) (by decide +kernel)
theorem fg_228 : (Jvm.Cond.eq (Jvm.Term.elem (Jvm.Term.static "java/lang/Integer" "DigitTens" "[B") (Jvm.Term.int (93 : Int32))) (Jvm.Term.int (57 : Int32))) ∈ flatC (Jvm.Cond.and given_1 narrow_1) := List.mem_of_getElem? (i := 228) (by decide +kernel)
theorem fg_229 : (Jvm.Cond.eq (Jvm.Term.elem (Jvm.Term.static "java/lang/Integer" "DigitTens" "[B") (Jvm.Term.int (94 : Int32))) (Jvm.Term.int (57 : Int32))) ∈ flatC (Jvm.Cond.and given_1 narrow_1) := List.mem_of_getElem? (i := 229) (by decide +kernel)
theorem fg_230 : (Jvm.Cond.eq (Jvm.Term.elem (Jvm.Term.static "java/lang/Integer" "DigitTens" "[B") (Jvm.Term.int (95 : Int32))) (Jvm.Term.int (57 : Int32))) ∈ flatC (Jvm.Cond.and given_1 narrow_1) := List.mem_of_getElem? (i := 230) (by decide +kernel)
theorem fg_231 : (Jvm.Cond.eq (Jvm.Term.elem (Jvm.Term.static "java/lang/Integer" "DigitTens" "[B") (Jvm.Term.int (96 : Int32))) (Jvm.Term.int (57 : Int32))) ∈ flatC (Jvm.Cond.and given_1 narrow_1) := List.mem_of_getElem? (i := 231) (by decide +kernel)
theorem fg_232 : (Jvm.Cond.eq (Jvm.Term.elem (Jvm.Term.static "java/lang/Integer" "DigitTens" "[B") (Jvm.Term.int (97 : Int32))) (Jvm.Term.int (57 : Int32))) ∈ flatC (Jvm.Cond.and given_1 narrow_1) := List.mem_of_getElem? (i := 232) (by decide +kernel)
theorem fg_233 : (Jvm.Cond.eq (Jvm.Term.elem (Jvm.Term.static "java/lang/Integer" "DigitTens" "[B") (Jvm.Term.int (98 : Int32))) (Jvm.Term.int (57 : Int32))) ∈ flatC (Jvm.Cond.and given_1 narrow_1) := List.mem_of_getElem? (i := 233) (by decide +kernel)
theorem fg_234 : (Jvm.Cond.eq (Jvm.Term.elem (Jvm.Term.static "java/lang/Integer" "DigitTens" "[B") (Jvm.Term.int (99 : Int32))) (Jvm.Term.int (57 : Int32))) ∈ flatC (Jvm.Cond.and given_1 narrow_1) := List.mem_of_getElem? (i := 234) (by decide +kernel)
theorem fw_1107 : (Jvm.Cond.laysStatic "java/lang/Integer" "DigitTens" "[B") ∈ lw_tbl := tb_5 (List.mem_of_getElem? (i := 147) (by decide +kernel))
theorem fw_1123 : (Jvm.Cond.instantiable "java/lang/String" (4 : Nat)) ∈ lw_tbl := tb_5 (List.mem_of_getElem? (i := 163) (by decide +kernel))
theorem fw_318 : (Jvm.Cond.instantiable "java/lang/StringBuilder" (4 : Nat)) ∈ lw_tbl := tb_2 (List.mem_of_getElem? (i := 78) (by decide +kernel))
theorem fw_284 : (Jvm.Cond.instantiable "SnowRecorder$Guesses" (4 : Nat)) ∈ lw_tbl := tb_2 (List.mem_of_getElem? (i := 44) (by decide +kernel))
theorem fw_308 : (Jvm.Cond.instantiable "SnowRecorder$Likeness" (1 : Nat)) ∈ lw_tbl := tb_2 (List.mem_of_getElem? (i := 68) (by decide +kernel))
theorem fw_211 : (Jvm.Cond.instantiable "SnowRecorder$Notes" (4 : Nat)) ∈ lw_tbl := tb_1 (List.mem_of_getElem? (i := 211) (by decide +kernel))
theorem fw_149 : (Jvm.Cond.instantiable "SnowRecorder$Pack" (3 : Nat)) ∈ lw_tbl := tb_1 (List.mem_of_getElem? (i := 149) (by decide +kernel))
theorem fw_234 : (Jvm.Cond.instantiable "SnowRecorder$Pit" (3 : Nat)) ∈ lw_tbl := tb_1 (List.mem_of_getElem? (i := 234) (by decide +kernel))
theorem fw_74 : (Jvm.Cond.instantiable "SnowRecorder$Plan" (9 : Nat)) ∈ lw_tbl := tb_1 (List.mem_of_getElem? (i := 74) (by decide +kernel))
theorem fw_136 : (Jvm.Cond.instantiable "SnowRecorder$State" (6 : Nat)) ∈ lw_tbl := tb_1 (List.mem_of_getElem? (i := 136) (by decide +kernel))
theorem fw_38 : (Jvm.Cond.instantiable "SnowRecorder$TextReader" (9 : Nat)) ∈ lw_tbl := tb_1 (List.mem_of_getElem? (i := 38) (by decide +kernel))
theorem fw_142 : (Jvm.Cond.instantiable "SnowRecorder$World" (7 : Nat)) ∈ lw_tbl := tb_1 (List.mem_of_getElem? (i := 142) (by decide +kernel))
theorem fw_30 : (Jvm.Cond.instantiable "SnowRecorder" (14 : Nat)) ∈ lw_tbl := tb_1 (List.mem_of_getElem? (i := 30) (by decide +kernel))
theorem fw_1450 : (Jvm.Cond.instantiable "SnowRecorderModel" (60 : Nat)) ∈ lw_tbl := tb_7 (List.mem_of_getElem? (i := 10) (by decide +kernel))
theorem fw_72 : (Jvm.Cond.arrayClass Jvm.ClassFile.FieldType.byte) ∈ lw_tbl := tb_1 (List.mem_of_getElem? (i := 72) (by decide +kernel))
theorem fw_134 : (Jvm.Cond.arrayClass Jvm.ClassFile.FieldType.int) ∈ lw_tbl := tb_1 (List.mem_of_getElem? (i := 134) (by decide +kernel))
theorem fw_2116 : (Jvm.Cond.arrayClass Jvm.ClassFile.FieldType.long) ∈ lw_tbl := tb_9 (List.mem_of_getElem? (i := 196) (by decide +kernel))
theorem fw_148 : (Jvm.Cond.arrayOver (Jvm.ClassFile.FieldType.object "SnowRecorder$Pack")) ∈ lw_tbl := tb_1 (List.mem_of_getElem? (i := 148) (by decide +kernel))
theorem fw_207 : (Jvm.Cond.arrayOver (Jvm.ClassFile.FieldType.object "SnowRecorder$World")) ∈ lw_tbl := tb_1 (List.mem_of_getElem? (i := 207) (by decide +kernel))
theorem fw_209 : (Jvm.Cond.arrayOver (Jvm.ClassFile.FieldType.object "SnowRecorder$Pit")) ∈ lw_tbl := tb_1 (List.mem_of_getElem? (i := 209) (by decide +kernel))
theorem fw_290 : (Jvm.Cond.arrayOver (Jvm.ClassFile.FieldType.array Jvm.ClassFile.FieldType.int)) ∈ lw_tbl := tb_2 (List.mem_of_getElem? (i := 50) (by decide +kernel))
theorem fw_80 : (Jvm.Cond.laysStatic "SnowRecorder" "TABLE" "[I") ∈ lw_tbl := tb_1 (List.mem_of_getElem? (i := 80) (by decide +kernel))
theorem fw_1 : (Jvm.Cond.initialized "SnowRecorder") ∈ lw_tbl := tb_1 (List.mem_of_getElem? (i := 1) (by decide +kernel))
theorem fw_327 : (Jvm.Cond.laysStatic "java/lang/String" "COMPACT_STRINGS" "Z") ∈ lw_tbl := tb_2 (List.mem_of_getElem? (i := 87) (by decide +kernel))
theorem fw_13 : (Jvm.Cond.initialized "java/lang/String") ∈ lw_tbl := tb_1 (List.mem_of_getElem? (i := 13) (by decide +kernel))
theorem fw_685 : (Jvm.Cond.laysStatic "java/lang/Throwable" "UNASSIGNED_STACK" "[Ljava/lang/StackTraceElement;") ∈ lw_tbl := tb_3 (List.mem_of_getElem? (i := 205) (by decide +kernel))
theorem fw_16 : (Jvm.Cond.initialized "java/lang/Throwable") ∈ lw_tbl := tb_1 (List.mem_of_getElem? (i := 16) (by decide +kernel))
theorem fw_687 : (Jvm.Cond.laysStatic "java/lang/Throwable" "SUPPRESSED_SENTINEL" "Ljava/util/List;") ∈ lw_tbl := tb_3 (List.mem_of_getElem? (i := 207) (by decide +kernel))
theorem fw_782 : (Jvm.Cond.laysStatic "jdk/internal/util/Preconditions" "SIOOBE_FORMATTER" "Ljava/util/function/BiFunction;") ∈ lw_tbl := tb_4 (List.mem_of_getElem? (i := 62) (by decide +kernel))
theorem fw_23 : (Jvm.Cond.initialized "jdk/internal/util/Preconditions") ∈ lw_tbl := tb_1 (List.mem_of_getElem? (i := 23) (by decide +kernel))
end
section
-- 9o2.env.lean.txt
theorem zTB_of {args : Array Value} {s : State} {A : Nat → Prop} {tm : Term} (harr : (Cond.arrayOf tm .int).before args s = true) (hex : (Cond.exactly tm "[I").before args s = true) (hlen : (Term.length tm).eval args s none [] s = some (.int (Int32.ofNat 15))) (hel : ∀ j : Nat, j < 15 → (Term.elem tm (.int (Int32.ofNat j))).eval args s none [] s = some (.int (zI (tabZ j)))) (hA : ∀ a : Nat, a < s.heap.size → ¬ A a) : ∃ t : Nat, tm.eval args s none [] s = some (.ref t) ∧ zTB t A s s.heap := by
  obtain ⟨t, ht, cell, h1, h2, h3, h4, h5, h6, h7⟩ := va_Tof (N := 15) (f := fun j => .int (zI (tabZ j))) (by decide) harr hlen hel hA
  obtain ⟨t', cell', ht', hat, hv⟩ := Term.length_spec hlen
  cases ht.symm.trans ht'
  obtain ⟨hcell, -, -, -⟩ := State.arrayAt?_spec hat
  cases h1.symm.trans hcell
  have hsz : cell.slots.size < 2 ^ 31 := by
    have hv2 := hlen
    simp only [Term.eval, ht, hat, Option.bind_eq_bind, Option.bind_some] at hv2
    by_cases hlt : cell.slots.size < 2147483648
    · exact hlt
    · simp [hlt] at hv2
  have h15 : cell.slots.size = 15 := by
    have e1 : (nI cell.slots.size).toInt = (cell.slots.size : Int) := nI_toInt hsz
    have e2 : (nI 15).toInt = ((15 : Nat) : Int) := nI_toInt (by decide)
    have e3 : nI cell.slots.size = nI 15 := h5
    rw [e3, e2] at e1
    omega
  obtain ⟨a', c', cell2, k2, q1, q2, q3, q4, q5, q6, -⟩ := Cond.exactly_spec hex
  cases ht.symm.trans q1
  cases h1.symm.trans q3
  exact ⟨t, ht, cell, h1, h2, h3, h15, h6, by rw [q6]; exact q2, h7⟩
theorem sr_of {args : Array Value} {s : State} {own tx : String} {k : Nat} (h1 : (Cond.stringRef own k tx).before args s = true) (h2 : (Cond.exactly (Term.string own k) "java/lang/String").before args s = true) : ∃ sa : Nat, vk_R own k tx sa s := by
  obtain ⟨a, c, cell, k2, q1, -⟩ := Cond.exactly_spec h2
  exact ⟨a, vk_R.of h1 q1⟩
theorem arrT_of {s : State} {c comp : ClassId} {kA : Class} {ty : FieldType} (h1 : s.vm.classes[c]? = some kA) (h2 : kA.kind = .array comp ty) : ArrOfT s c ty := fun n z => ⟨fun k h => (by cases h), kA, h1, comp, h2⟩
theorem zq_al0 {P : Nat → Prop} : ∀ j : Nat, j < 0 → P j := fun j h => absurd h (Nat.not_lt_zero j)
theorem zq_alS {P : Nat → Prop} {n : Nat} (h : ∀ j : Nat, j < n → P j) (hn : P n) : ∀ j : Nat, j < n + 1 → P j := fun j hj => by
  by_cases e : j = n
  · subst e; exact hn
  · exact h j (by omega)
/-- a String constant and its bytes -/
theorem zq_str {args : Array Value} {s : State} {own tx : String} {k n : Nat} {A : Nat → Prop} {f : Nat → Int32} (h1 : (Cond.stringRef own k tx).before args s = true) (h2 : (Cond.exactly (Term.string own k) "java/lang/String").before args s = true) (hc : (Term.field (Term.string own k) "java/lang/String" "coder" "B").eval args s none [] s = some (.int 0)) (harr : (Cond.arrayOf (Term.field (Term.string own k) "java/lang/String" "value" "[B") .byte).before args s = true) (hlen : (Term.length (Term.field (Term.string own k) "java/lang/String" "value" "[B")).eval args s none [] s = some (.int (Int32.ofNat n))) (hel : ∀ j : Nat, j < n → (Term.elem (Term.field (Term.string own k) "java/lang/String" "value" "[B") (.int (Int32.ofNat j))).eval args s none [] s = some (.int (f j))) (hN : n < 2 ^ 31) (hA : ∀ a : Nat, a < s.heap.size → ¬ A a) : ∃ sa va : Nat, vk_R own k tx sa s ∧ va_O "java/lang/String" sa A s s.heap ∧ va_OF "java/lang/String" "coder" "B" (.int 0) sa A s s.heap ∧ va_OF "java/lang/String" "value" "[B" (.ref va) sa A s s.heap ∧ va_T .byte va n (fun j => .int (f j)) A s s.heap := by
  obtain ⟨a, c, cell, k2, q1, -⟩ := Cond.exactly_spec h2
  obtain ⟨v, hv, hT⟩ := va_Tof (f := fun j => .int (f j)) hN harr hlen hel hA
  exact ⟨a, v, vk_R.of h1 q1, va_Oof h2 q1 hA, vk_OFof q1 hc hA, vk_OFof q1 hv hA, hT⟩
/-- a static row of bytes -/
theorem zq_sta {args : Array Value} {s : State} {C nm : String} {n : Nat} {A : Nat → Prop} {f : Nat → Int32} (hl : (Cond.laysStatic C nm "[B").before args s = true) (hini : (Cond.initialized C).before args s = true) (harr : (Cond.arrayOf (Term.static C nm "[B") .byte).before args s = true) (hlen : (Term.length (Term.static C nm "[B")).eval args s none [] s = some (.int (Int32.ofNat n))) (hel : ∀ j : Nat, j < n → (Term.elem (Term.static C nm "[B") (.int (Int32.ofNat j))).eval args s none [] s = some (.int (f j))) (hN : n < 2 ^ 31) (hA : ∀ a : Nat, a < s.heap.size → ¬ A a) : ∃ t : Nat, va_Z C nm "[B" (.ref t) A s s.heap ∧ va_T .byte t n (fun j => .int (f j)) A s s.heap := by
  obtain ⟨v, hv, hT⟩ := va_Tof (f := fun j => .int (f j)) hN harr hlen hel hA
  exact ⟨v, va_Zref hl hini hv hA, hT⟩
def zq_cs (a b c d : List Nat) (k : Nat) : Nat := if k < 100 then a.getD k 0 else if k < 200 then b.getD (k - 100) 0 else if k < 300 then c.getD (k - 200) 0 else d.getD (k - 300) 0
set_option maxRecDepth 100000 in
set_option maxHeartbeats 4000000 in
theorem zq_so0 {s : State} {b : Nat} (hts : ∀ w ∈ lw_tbl, w.before #[Value.ref b] s = true) (hgv : (Jvm.Cond.and given_1 narrow_1).before #[Value.ref b] s = true) {A : Nat → Prop} (hA : ∀ a : Nat, a < s.heap.size → ¬ A a) : ∃ sa va : Nat, vk_R "SnowRecorder$TextReader" 61 "slope" sa s ∧ va_O "java/lang/String" sa A s s.heap ∧ va_OF "java/lang/String" "coder" "B" (.int 0) sa A s s.heap ∧ va_OF "java/lang/String" "value" "[B" (.ref va) sa A s s.heap ∧ va_T .byte va 5 (fun j => .int (([115, 108, 111, 112, 101] : List Int32).getD j 0)) A s s.heap := by
  have hs := flat_of_before _ hgv
  exact zq_str (hts _ fw_753) (hs _ fg_423) (va_eqt (hs _ fg_424)) (hs _ fg_425) (va_eqt (hs _ fg_426)) (zq_alS (zq_alS (zq_alS (zq_alS (zq_alS zq_al0 (va_eqt (hs _ fg_427))) (va_eqt (hs _ fg_428))) (va_eqt (hs _ fg_429))) (va_eqt (hs _ fg_430))) (va_eqt (hs _ fg_431))) (by decide) hA
set_option maxRecDepth 100000 in
set_option maxHeartbeats 4000000 in
theorem zq_so1 {s : State} {b : Nat} (hts : ∀ w ∈ lw_tbl, w.before #[Value.ref b] s = true) (hgv : (Jvm.Cond.and given_1 narrow_1).before #[Value.ref b] s = true) {A : Nat → Prop} (hA : ∀ a : Nat, a < s.heap.size → ¬ A a) : ∃ sa va : Nat, vk_R "SnowRecorder$TextReader" 71 "layer" sa s ∧ va_O "java/lang/String" sa A s s.heap ∧ va_OF "java/lang/String" "coder" "B" (.int 0) sa A s s.heap ∧ va_OF "java/lang/String" "value" "[B" (.ref va) sa A s s.heap ∧ va_T .byte va 5 (fun j => .int (([108, 97, 121, 101, 114] : List Int32).getD j 0)) A s s.heap := by
  have hs := flat_of_before _ hgv
  exact zq_str (hts _ fw_825) (hs _ fg_432) (va_eqt (hs _ fg_433)) (hs _ fg_434) (va_eqt (hs _ fg_435)) (zq_alS (zq_alS (zq_alS (zq_alS (zq_alS zq_al0 (va_eqt (hs _ fg_436))) (va_eqt (hs _ fg_437))) (va_eqt (hs _ fg_438))) (va_eqt (hs _ fg_439))) (va_eqt (hs _ fg_440))) (by decide) hA
set_option maxRecDepth 100000 in
set_option maxHeartbeats 4000000 in
theorem zq_so2 {s : State} {b : Nat} (hts : ∀ w ∈ lw_tbl, w.before #[Value.ref b] s = true) (hgv : (Jvm.Cond.and given_1 narrow_1).before #[Value.ref b] s = true) {A : Nat → Prop} (hA : ∀ a : Nat, a < s.heap.size → ¬ A a) : ∃ sa va : Nat, vk_R "SnowRecorder" 495 "powder" sa s ∧ va_O "java/lang/String" sa A s s.heap ∧ va_OF "java/lang/String" "coder" "B" (.int 0) sa A s s.heap ∧ va_OF "java/lang/String" "value" "[B" (.ref va) sa A s s.heap ∧ va_T .byte va 6 (fun j => .int (([112, 111, 119, 100, 101, 114] : List Int32).getD j 0)) A s s.heap := by
  have hs := flat_of_before _ hgv
  exact zq_str (hts _ fw_837) (hs _ fg_441) (va_eqt (hs _ fg_442)) (hs _ fg_443) (va_eqt (hs _ fg_444)) (zq_alS (zq_alS (zq_alS (zq_alS (zq_alS (zq_alS zq_al0 (va_eqt (hs _ fg_445))) (va_eqt (hs _ fg_446))) (va_eqt (hs _ fg_447))) (va_eqt (hs _ fg_448))) (va_eqt (hs _ fg_449))) (va_eqt (hs _ fg_450))) (by decide) hA
set_option maxRecDepth 100000 in
set_option maxHeartbeats 4000000 in
theorem zq_so3 {s : State} {b : Nat} (hts : ∀ w ∈ lw_tbl, w.before #[Value.ref b] s = true) (hgv : (Jvm.Cond.and given_1 narrow_1).before #[Value.ref b] s = true) {A : Nat → Prop} (hA : ∀ a : Nat, a < s.heap.size → ¬ A a) : ∃ sa va : Nat, vk_R "SnowRecorder" 497 "grains" sa s ∧ va_O "java/lang/String" sa A s s.heap ∧ va_OF "java/lang/String" "coder" "B" (.int 0) sa A s s.heap ∧ va_OF "java/lang/String" "value" "[B" (.ref va) sa A s s.heap ∧ va_T .byte va 6 (fun j => .int (([103, 114, 97, 105, 110, 115] : List Int32).getD j 0)) A s s.heap := by
  have hs := flat_of_before _ hgv
  exact zq_str (hts _ fw_838) (hs _ fg_451) (va_eqt (hs _ fg_452)) (hs _ fg_453) (va_eqt (hs _ fg_454)) (zq_alS (zq_alS (zq_alS (zq_alS (zq_alS (zq_alS zq_al0 (va_eqt (hs _ fg_455))) (va_eqt (hs _ fg_456))) (va_eqt (hs _ fg_457))) (va_eqt (hs _ fg_458))) (va_eqt (hs _ fg_459))) (va_eqt (hs _ fg_460))) (by decide) hA
set_option maxRecDepth 100000 in
set_option maxHeartbeats 4000000 in
theorem zq_so4 {s : State} {b : Nat} (hts : ∀ w ∈ lw_tbl, w.before #[Value.ref b] s = true) (hgv : (Jvm.Cond.and given_1 narrow_1).before #[Value.ref b] s = true) {A : Nat → Prop} (hA : ∀ a : Nat, a < s.heap.size → ¬ A a) : ∃ sa va : Nat, vk_R "SnowRecorder" 499 "facets" sa s ∧ va_O "java/lang/String" sa A s s.heap ∧ va_OF "java/lang/String" "coder" "B" (.int 0) sa A s s.heap ∧ va_OF "java/lang/String" "value" "[B" (.ref va) sa A s s.heap ∧ va_T .byte va 6 (fun j => .int (([102, 97, 99, 101, 116, 115] : List Int32).getD j 0)) A s s.heap := by
  have hs := flat_of_before _ hgv
  exact zq_str (hts _ fw_839) (hs _ fg_461) (va_eqt (hs _ fg_462)) (hs _ fg_463) (va_eqt (hs _ fg_464)) (zq_alS (zq_alS (zq_alS (zq_alS (zq_alS (zq_alS zq_al0 (va_eqt (hs _ fg_465))) (va_eqt (hs _ fg_466))) (va_eqt (hs _ fg_467))) (va_eqt (hs _ fg_468))) (va_eqt (hs _ fg_469))) (va_eqt (hs _ fg_470))) (by decide) hA
set_option maxRecDepth 100000 in
set_option maxHeartbeats 4000000 in
theorem zq_so5 {s : State} {b : Nat} (hts : ∀ w ∈ lw_tbl, w.before #[Value.ref b] s = true) (hgv : (Jvm.Cond.and given_1 narrow_1).before #[Value.ref b] s = true) {A : Nat → Prop} (hA : ∀ a : Nat, a < s.heap.size → ¬ A a) : ∃ sa va : Nat, vk_R "SnowRecorder" 501 "crust" sa s ∧ va_O "java/lang/String" sa A s s.heap ∧ va_OF "java/lang/String" "coder" "B" (.int 0) sa A s s.heap ∧ va_OF "java/lang/String" "value" "[B" (.ref va) sa A s s.heap ∧ va_T .byte va 5 (fun j => .int (([99, 114, 117, 115, 116] : List Int32).getD j 0)) A s s.heap := by
  have hs := flat_of_before _ hgv
  exact zq_str (hts _ fw_840) (hs _ fg_471) (va_eqt (hs _ fg_472)) (hs _ fg_473) (va_eqt (hs _ fg_474)) (zq_alS (zq_alS (zq_alS (zq_alS (zq_alS zq_al0 (va_eqt (hs _ fg_475))) (va_eqt (hs _ fg_476))) (va_eqt (hs _ fg_477))) (va_eqt (hs _ fg_478))) (va_eqt (hs _ fg_479))) (by decide) hA
set_option maxRecDepth 100000 in
set_option maxHeartbeats 4000000 in
theorem zq_so6 {s : State} {b : Nat} (hts : ∀ w ∈ lw_tbl, w.before #[Value.ref b] s = true) (hgv : (Jvm.Cond.and given_1 narrow_1).before #[Value.ref b] s = true) {A : Nat → Prop} (hA : ∀ a : Nat, a < s.heap.size → ¬ A a) : ∃ sa va : Nat, vk_R "SnowRecorder" 503 "hoar" sa s ∧ va_O "java/lang/String" sa A s s.heap ∧ va_OF "java/lang/String" "coder" "B" (.int 0) sa A s s.heap ∧ va_OF "java/lang/String" "value" "[B" (.ref va) sa A s s.heap ∧ va_T .byte va 4 (fun j => .int (([104, 111, 97, 114] : List Int32).getD j 0)) A s s.heap := by
  have hs := flat_of_before _ hgv
  exact zq_str (hts _ fw_841) (hs _ fg_480) (va_eqt (hs _ fg_481)) (hs _ fg_482) (va_eqt (hs _ fg_483)) (zq_alS (zq_alS (zq_alS (zq_alS zq_al0 (va_eqt (hs _ fg_484))) (va_eqt (hs _ fg_485))) (va_eqt (hs _ fg_486))) (va_eqt (hs _ fg_487))) (by decide) hA
set_option maxRecDepth 100000 in
set_option maxHeartbeats 4000000 in
theorem zq_so7 {s : State} {b : Nat} (hts : ∀ w ∈ lw_tbl, w.before #[Value.ref b] s = true) (hgv : (Jvm.Cond.and given_1 narrow_1).before #[Value.ref b] s = true) {A : Nat → Prop} (hA : ∀ a : Nat, a < s.heap.size → ¬ A a) : ∃ sa va : Nat, vk_R "SnowRecorder$TextReader" 76 "hour" sa s ∧ va_O "java/lang/String" sa A s s.heap ∧ va_OF "java/lang/String" "coder" "B" (.int 0) sa A s s.heap ∧ va_OF "java/lang/String" "value" "[B" (.ref va) sa A s s.heap ∧ va_T .byte va 4 (fun j => .int (([104, 111, 117, 114] : List Int32).getD j 0)) A s s.heap := by
  have hs := flat_of_before _ hgv
  exact zq_str (hts _ fw_843) (hs _ fg_488) (va_eqt (hs _ fg_489)) (hs _ fg_490) (va_eqt (hs _ fg_491)) (zq_alS (zq_alS (zq_alS (zq_alS zq_al0 (va_eqt (hs _ fg_492))) (va_eqt (hs _ fg_493))) (va_eqt (hs _ fg_494))) (va_eqt (hs _ fg_495))) (by decide) hA
set_option maxRecDepth 100000 in
set_option maxHeartbeats 4000000 in
theorem zq_so8 {s : State} {b : Nat} (hts : ∀ w ∈ lw_tbl, w.before #[Value.ref b] s = true) (hgv : (Jvm.Cond.and given_1 narrow_1).before #[Value.ref b] s = true) {A : Nat → Prop} (hA : ∀ a : Nat, a < s.heap.size → ¬ A a) : ∃ sa va : Nat, vk_R "SnowRecorder$TextReader" 149 "snow" sa s ∧ va_O "java/lang/String" sa A s s.heap ∧ va_OF "java/lang/String" "coder" "B" (.int 0) sa A s s.heap ∧ va_OF "java/lang/String" "value" "[B" (.ref va) sa A s s.heap ∧ va_T .byte va 4 (fun j => .int (([115, 110, 111, 119] : List Int32).getD j 0)) A s s.heap := by
  have hs := flat_of_before _ hgv
  exact zq_str (hts _ fw_852) (hs _ fg_496) (va_eqt (hs _ fg_497)) (hs _ fg_498) (va_eqt (hs _ fg_499)) (zq_alS (zq_alS (zq_alS (zq_alS zq_al0 (va_eqt (hs _ fg_500))) (va_eqt (hs _ fg_501))) (va_eqt (hs _ fg_502))) (va_eqt (hs _ fg_503))) (by decide) hA
set_option maxRecDepth 100000 in
set_option maxHeartbeats 4000000 in
theorem zq_so9 {s : State} {b : Nat} (hts : ∀ w ∈ lw_tbl, w.before #[Value.ref b] s = true) (hgv : (Jvm.Cond.and given_1 narrow_1).before #[Value.ref b] s = true) {A : Nat → Prop} (hA : ∀ a : Nat, a < s.heap.size → ¬ A a) : ∃ sa va : Nat, vk_R "SnowRecorder$TextReader" 151 "rain" sa s ∧ va_O "java/lang/String" sa A s s.heap ∧ va_OF "java/lang/String" "coder" "B" (.int 0) sa A s s.heap ∧ va_OF "java/lang/String" "value" "[B" (.ref va) sa A s s.heap ∧ va_T .byte va 4 (fun j => .int (([114, 97, 105, 110] : List Int32).getD j 0)) A s s.heap := by
  have hs := flat_of_before _ hgv
  exact zq_str (hts _ fw_853) (hs _ fg_504) (va_eqt (hs _ fg_505)) (hs _ fg_506) (va_eqt (hs _ fg_507)) (zq_alS (zq_alS (zq_alS (zq_alS zq_al0 (va_eqt (hs _ fg_508))) (va_eqt (hs _ fg_509))) (va_eqt (hs _ fg_510))) (va_eqt (hs _ fg_511))) (by decide) hA
set_option maxRecDepth 100000 in
set_option maxHeartbeats 4000000 in
theorem zq_so10 {s : State} {b : Nat} (hts : ∀ w ∈ lw_tbl, w.before #[Value.ref b] s = true) (hgv : (Jvm.Cond.and given_1 narrow_1).before #[Value.ref b] s = true) {A : Nat → Prop} (hA : ∀ a : Nat, a < s.heap.size → ¬ A a) : ∃ sa va : Nat, vk_R "SnowRecorder$TextReader" 153 "hoar" sa s ∧ va_O "java/lang/String" sa A s s.heap ∧ va_OF "java/lang/String" "coder" "B" (.int 0) sa A s s.heap ∧ va_OF "java/lang/String" "value" "[B" (.ref va) sa A s s.heap ∧ va_T .byte va 4 (fun j => .int (([104, 111, 97, 114] : List Int32).getD j 0)) A s s.heap := by
  have hs := flat_of_before _ hgv
  exact zq_str (hts _ fw_854) (hs _ fg_512) (va_eqt (hs _ fg_513)) (hs _ fg_514) (va_eqt (hs _ fg_515)) (zq_alS (zq_alS (zq_alS (zq_alS zq_al0 (va_eqt (hs _ fg_516))) (va_eqt (hs _ fg_517))) (va_eqt (hs _ fg_518))) (va_eqt (hs _ fg_519))) (by decide) hA
set_option maxRecDepth 100000 in
set_option maxHeartbeats 4000000 in
theorem zq_so11 {s : State} {b : Nat} (hts : ∀ w ∈ lw_tbl, w.before #[Value.ref b] s = true) (hgv : (Jvm.Cond.and given_1 narrow_1).before #[Value.ref b] s = true) {A : Nat → Prop} (hA : ∀ a : Nat, a < s.heap.size → ¬ A a) : ∃ sa va : Nat, vk_R "SnowRecorder$TextReader" 81 "strong" sa s ∧ va_O "java/lang/String" sa A s s.heap ∧ va_OF "java/lang/String" "coder" "B" (.int 0) sa A s s.heap ∧ va_OF "java/lang/String" "value" "[B" (.ref va) sa A s s.heap ∧ va_T .byte va 6 (fun j => .int (([115, 116, 114, 111, 110, 103] : List Int32).getD j 0)) A s s.heap := by
  have hs := flat_of_before _ hgv
  exact zq_str (hts _ fw_855) (hs _ fg_521) (va_eqt (hs _ fg_522)) (hs _ fg_523) (va_eqt (hs _ fg_524)) (zq_alS (zq_alS (zq_alS (zq_alS (zq_alS (zq_alS zq_al0 (va_eqt (hs _ fg_525))) (va_eqt (hs _ fg_526))) (va_eqt (hs _ fg_527))) (va_eqt (hs _ fg_528))) (va_eqt (hs _ fg_529))) (va_eqt (hs _ fg_530))) (by decide) hA
set_option maxRecDepth 100000 in
set_option maxHeartbeats 4000000 in
theorem zq_so12 {s : State} {b : Nat} (hts : ∀ w ∈ lw_tbl, w.before #[Value.ref b] s = true) (hgv : (Jvm.Cond.and given_1 narrow_1).before #[Value.ref b] s = true) {A : Nat → Prop} (hA : ∀ a : Nat, a < s.heap.size → ¬ A a) : ∃ sa va : Nat, vk_R "SnowRecorder$TextReader" 87 "holds" sa s ∧ va_O "java/lang/String" sa A s s.heap ∧ va_OF "java/lang/String" "coder" "B" (.int 0) sa A s s.heap ∧ va_OF "java/lang/String" "value" "[B" (.ref va) sa A s s.heap ∧ va_T .byte va 5 (fun j => .int (([104, 111, 108, 100, 115] : List Int32).getD j 0)) A s s.heap := by
  have hs := flat_of_before _ hgv
  exact zq_str (hts _ fw_860) (hs _ fg_531) (va_eqt (hs _ fg_532)) (hs _ fg_533) (va_eqt (hs _ fg_534)) (zq_alS (zq_alS (zq_alS (zq_alS (zq_alS zq_al0 (va_eqt (hs _ fg_535))) (va_eqt (hs _ fg_536))) (va_eqt (hs _ fg_537))) (va_eqt (hs _ fg_538))) (va_eqt (hs _ fg_539))) (by decide) hA
set_option maxRecDepth 100000 in
set_option maxHeartbeats 4000000 in
theorem zq_so13 {s : State} {b : Nat} (hts : ∀ w ∈ lw_tbl, w.before #[Value.ref b] s = true) (hgv : (Jvm.Cond.and given_1 narrow_1).before #[Value.ref b] s = true) {A : Nat → Prop} (hA : ∀ a : Nat, a < s.heap.size → ¬ A a) : ∃ sa va : Nat, vk_R "SnowRecorder$TextReader" 89 "stiff" sa s ∧ va_O "java/lang/String" sa A s s.heap ∧ va_OF "java/lang/String" "coder" "B" (.int 0) sa A s s.heap ∧ va_OF "java/lang/String" "value" "[B" (.ref va) sa A s s.heap ∧ va_T .byte va 5 (fun j => .int (([115, 116, 105, 102, 102] : List Int32).getD j 0)) A s s.heap := by
  have hs := flat_of_before _ hgv
  exact zq_str (hts _ fw_861) (hs _ fg_540) (va_eqt (hs _ fg_541)) (hs _ fg_542) (va_eqt (hs _ fg_543)) (zq_alS (zq_alS (zq_alS (zq_alS (zq_alS zq_al0 (va_eqt (hs _ fg_544))) (va_eqt (hs _ fg_545))) (va_eqt (hs _ fg_546))) (va_eqt (hs _ fg_547))) (va_eqt (hs _ fg_548))) (by decide) hA
set_option maxRecDepth 100000 in
set_option maxHeartbeats 4000000 in
theorem zq_so14 {s : State} {b : Nat} (hts : ∀ w ∈ lw_tbl, w.before #[Value.ref b] s = true) (hgv : (Jvm.Cond.and given_1 narrow_1).before #[Value.ref b] s = true) {A : Nat → Prop} (hA : ∀ a : Nat, a < s.heap.size → ¬ A a) : ∃ sa va : Nat, vk_R "SnowRecorder" 487 " of " sa s ∧ va_O "java/lang/String" sa A s s.heap ∧ va_OF "java/lang/String" "coder" "B" (.int 0) sa A s s.heap ∧ va_OF "java/lang/String" "value" "[B" (.ref va) sa A s s.heap ∧ va_T .byte va 4 (fun j => .int (([32, 111, 102, 32] : List Int32).getD j 0)) A s s.heap := by
  have hs := flat_of_before _ hgv
  exact zq_str (hts _ fw_1197) (hs _ fg_742) (va_eqt (hs _ fg_743)) (hs _ fg_744) (va_eqt (hs _ fg_745)) (zq_alS (zq_alS (zq_alS (zq_alS zq_al0 (va_eqt (hs _ fg_746))) (va_eqt (hs _ fg_747))) (va_eqt (hs _ fg_748))) (va_eqt (hs _ fg_749))) (by decide) hA
set_option maxRecDepth 100000 in
set_option maxHeartbeats 4000000 in
theorem zq_so15 {s : State} {b : Nat} (hts : ∀ w ∈ lw_tbl, w.before #[Value.ref b] s = true) (hgv : (Jvm.Cond.and given_1 narrow_1).before #[Value.ref b] s = true) {A : Nat → Prop} (hA : ∀ a : Nat, a < s.heap.size → ¬ A a) : ∃ sa va : Nat, vk_R "SnowRecorder" 489 " wet " sa s ∧ va_O "java/lang/String" sa A s s.heap ∧ va_OF "java/lang/String" "coder" "B" (.int 0) sa A s s.heap ∧ va_OF "java/lang/String" "value" "[B" (.ref va) sa A s s.heap ∧ va_T .byte va 5 (fun j => .int (([32, 119, 101, 116, 32] : List Int32).getD j 0)) A s s.heap := by
  have hs := flat_of_before _ hgv
  exact zq_str (hts _ fw_1198) (hs _ fg_750) (va_eqt (hs _ fg_751)) (hs _ fg_752) (va_eqt (hs _ fg_753)) (zq_alS (zq_alS (zq_alS (zq_alS (zq_alS zq_al0 (va_eqt (hs _ fg_754))) (va_eqt (hs _ fg_755))) (va_eqt (hs _ fg_756))) (va_eqt (hs _ fg_757))) (va_eqt (hs _ fg_758))) (by decide) hA
set_option maxRecDepth 100000 in
set_option maxHeartbeats 4000000 in
theorem zq_so16 {s : State} {b : Nat} (hts : ∀ w ∈ lw_tbl, w.before #[Value.ref b] s = true) (hgv : (Jvm.Cond.and given_1 narrow_1).before #[Value.ref b] s = true) {A : Nat → Prop} (hA : ∀ a : Nat, a < s.heap.size → ¬ A a) : ∃ sa va : Nat, vk_R "SnowRecorder" 491 " in " sa s ∧ va_O "java/lang/String" sa A s s.heap ∧ va_OF "java/lang/String" "coder" "B" (.int 0) sa A s s.heap ∧ va_OF "java/lang/String" "value" "[B" (.ref va) sa A s s.heap ∧ va_T .byte va 4 (fun j => .int (([32, 105, 110, 32] : List Int32).getD j 0)) A s s.heap := by
  have hs := flat_of_before _ hgv
  exact zq_str (hts _ fw_1199) (hs _ fg_759) (va_eqt (hs _ fg_760)) (hs _ fg_761) (va_eqt (hs _ fg_762)) (zq_alS (zq_alS (zq_alS (zq_alS zq_al0 (va_eqt (hs _ fg_763))) (va_eqt (hs _ fg_764))) (va_eqt (hs _ fg_765))) (va_eqt (hs _ fg_766))) (by decide) hA
set_option maxRecDepth 100000 in
set_option maxHeartbeats 4000000 in
theorem zq_so17 {s : State} {b : Nat} (hts : ∀ w ∈ lw_tbl, w.before #[Value.ref b] s = true) (hgv : (Jvm.Cond.and given_1 narrow_1).before #[Value.ref b] s = true) {A : Nat → Prop} (hA : ∀ a : Nat, a < s.heap.size → ¬ A a) : ∃ sa va : Nat, vk_R "SnowRecorder" 493 " at " sa s ∧ va_O "java/lang/String" sa A s s.heap ∧ va_OF "java/lang/String" "coder" "B" (.int 0) sa A s s.heap ∧ va_OF "java/lang/String" "value" "[B" (.ref va) sa A s s.heap ∧ va_T .byte va 4 (fun j => .int (([32, 97, 116, 32] : List Int32).getD j 0)) A s s.heap := by
  have hs := flat_of_before _ hgv
  exact zq_str (hts _ fw_1200) (hs _ fg_767) (va_eqt (hs _ fg_768)) (hs _ fg_769) (va_eqt (hs _ fg_770)) (zq_alS (zq_alS (zq_alS (zq_alS zq_al0 (va_eqt (hs _ fg_771))) (va_eqt (hs _ fg_772))) (va_eqt (hs _ fg_773))) (va_eqt (hs _ fg_774))) (by decide) hA
set_option maxRecDepth 100000 in
set_option maxHeartbeats 4000000 in
theorem zq_st0 {s : State} {b : Nat} (hts : ∀ w ∈ lw_tbl, w.before #[Value.ref b] s = true) (hgv : (Jvm.Cond.and given_1 narrow_1).before #[Value.ref b] s = true) {A : Nat → Prop} (hA : ∀ a : Nat, a < s.heap.size → ¬ A a) : ∃ t : Nat, va_Z "SnowRecorderModel" "KNOWN" "[B" (.ref t) A s s.heap ∧ va_T .byte t 78 (fun j => .int (([115, 108, 111, 112, 101, 32, 108, 97, 121, 101, 114, 32, 104, 111, 117, 114, 32, 115, 110, 111, 119, 32, 114, 97, 105, 110, 32, 104, 111, 97, 114, 32, 115, 116, 114, 111, 110, 103, 32, 104, 111, 108, 100, 115, 32, 115, 116, 105, 102, 102, 32, 112, 111, 119, 100, 101, 114, 32, 103, 114, 97, 105, 110, 115, 32, 102, 97, 99, 101, 116, 115, 32, 99, 114, 117, 115, 116, 32] : List Int32).getD j 0)) A s s.heap := by
  have hs := flat_of_before _ hgv
  exact zq_sta (hts _ fw_1668) (hts _ fw_15) (hs _ fg_236) (va_eqt (hs _ fg_237)) (zq_alS (zq_alS (zq_alS (zq_alS (zq_alS (zq_alS (zq_alS (zq_alS (zq_alS (zq_alS (zq_alS (zq_alS (zq_alS (zq_alS (zq_alS (zq_alS (zq_alS (zq_alS (zq_alS (zq_alS (zq_alS (zq_alS (zq_alS (zq_alS (zq_alS (zq_alS (zq_alS (zq_alS (zq_alS (zq_alS (zq_alS (zq_alS (zq_alS (zq_alS (zq_alS (zq_alS (zq_alS (zq_alS (zq_alS (zq_alS (zq_alS (zq_alS (zq_alS (zq_alS (zq_alS (zq_alS (zq_alS (zq_alS (zq_alS (zq_alS (zq_alS (zq_alS (zq_alS (zq_alS (zq_alS (zq_alS (zq_alS (zq_alS (zq_alS (zq_alS (zq_alS (zq_alS (zq_alS (zq_alS (zq_alS (zq_alS (zq_alS (zq_alS (zq_alS (zq_alS (zq_alS (zq_alS (zq_alS (zq_alS (zq_alS (zq_alS (zq_alS (zq_alS zq_al0 (va_eqt (hs _ fg_238))) (va_eqt (hs _ fg_239))) (va_eqt (hs _ fg_240))) (va_eqt (hs _ fg_241))) (va_eqt (hs _ fg_242))) (va_eqt (hs _ fg_243))) (va_eqt (hs _ fg_244))) (va_eqt (hs _ fg_245))) (va_eqt (hs _ fg_246))) (va_eqt (hs _ fg_247))) (va_eqt (hs _ fg_248))) (va_eqt (hs _ fg_249))) (va_eqt (hs _ fg_250))) (va_eqt (hs _ fg_251))) (va_eqt (hs _ fg_252))) (va_eqt (hs _ fg_253))) (va_eqt (hs _ fg_254))) (va_eqt (hs _ fg_255))) (va_eqt (hs _ fg_256))) (va_eqt (hs _ fg_257))) (va_eqt (hs _ fg_258))) (va_eqt (hs _ fg_259))) (va_eqt (hs _ fg_260))) (va_eqt (hs _ fg_261))) (va_eqt (hs _ fg_262))) (va_eqt (hs _ fg_263))) (va_eqt (hs _ fg_264))) (va_eqt (hs _ fg_265))) (va_eqt (hs _ fg_266))) (va_eqt (hs _ fg_267))) (va_eqt (hs _ fg_268))) (va_eqt (hs _ fg_269))) (va_eqt (hs _ fg_270))) (va_eqt (hs _ fg_271))) (va_eqt (hs _ fg_272))) (va_eqt (hs _ fg_273))) (va_eqt (hs _ fg_274))) (va_eqt (hs _ fg_275))) (va_eqt (hs _ fg_276))) (va_eqt (hs _ fg_277))) (va_eqt (hs _ fg_278))) (va_eqt (hs _ fg_279))) (va_eqt (hs _ fg_280))) (va_eqt (hs _ fg_281))) (va_eqt (hs _ fg_282))) (va_eqt (hs _ fg_283))) (va_eqt (hs _ fg_284))) (va_eqt (hs _ fg_285))) (va_eqt (hs _ fg_286))) (va_eqt (hs _ fg_287))) (va_eqt (hs _ fg_288))) (va_eqt (hs _ fg_289))) (va_eqt (hs _ fg_290))) (va_eqt (hs _ fg_291))) (va_eqt (hs _ fg_292))) (va_eqt (hs _ fg_293))) (va_eqt (hs _ fg_294))) (va_eqt (hs _ fg_295))) (va_eqt (hs _ fg_296))) (va_eqt (hs _ fg_297))) (va_eqt (hs _ fg_298))) (va_eqt (hs _ fg_299))) (va_eqt (hs _ fg_300))) (va_eqt (hs _ fg_301))) (va_eqt (hs _ fg_302))) (va_eqt (hs _ fg_303))) (va_eqt (hs _ fg_304))) (va_eqt (hs _ fg_305))) (va_eqt (hs _ fg_306))) (va_eqt (hs _ fg_307))) (va_eqt (hs _ fg_308))) (va_eqt (hs _ fg_309))) (va_eqt (hs _ fg_310))) (va_eqt (hs _ fg_311))) (va_eqt (hs _ fg_312))) (va_eqt (hs _ fg_313))) (va_eqt (hs _ fg_314))) (va_eqt (hs _ fg_315))) (by decide) hA
set_option maxRecDepth 100000 in
set_option maxHeartbeats 4000000 in
theorem zq_st1 {s : State} {b : Nat} (hts : ∀ w ∈ lw_tbl, w.before #[Value.ref b] s = true) (hgv : (Jvm.Cond.and given_1 narrow_1).before #[Value.ref b] s = true) {A : Nat → Prop} (hA : ∀ a : Nat, a < s.heap.size → ¬ A a) : ∃ t : Nat, va_Z "java/lang/Integer" "DigitOnes" "[B" (.ref t) A s s.heap ∧ va_T .byte t 100 (fun j => .int (([48, 49, 50, 51, 52, 53, 54, 55, 56, 57, 48, 49, 50, 51, 52, 53, 54, 55, 56, 57, 48, 49, 50, 51, 52, 53, 54, 55, 56, 57, 48, 49, 50, 51, 52, 53, 54, 55, 56, 57, 48, 49, 50, 51, 52, 53, 54, 55, 56, 57, 48, 49, 50, 51, 52, 53, 54, 55, 56, 57, 48, 49, 50, 51, 52, 53, 54, 55, 56, 57, 48, 49, 50, 51, 52, 53, 54, 55, 56, 57, 48, 49, 50, 51, 52, 53, 54, 55, 56, 57, 48, 49, 50, 51, 52, 53, 54, 55, 56, 57] : List Int32).getD j 0)) A s s.heap := by
  have hs := flat_of_before _ hgv
  exact zq_sta (hts _ fw_1105) (hts _ fw_28) (hs _ fg_30) (va_eqt (hs _ fg_31)) (zq_alS (zq_alS (zq_alS (zq_alS (zq_alS (zq_alS (zq_alS (zq_alS (zq_alS (zq_alS (zq_alS (zq_alS (zq_alS (zq_alS (zq_alS (zq_alS (zq_alS (zq_alS (zq_alS (zq_alS (zq_alS (zq_alS (zq_alS (zq_alS (zq_alS (zq_alS (zq_alS (zq_alS (zq_alS (zq_alS (zq_alS (zq_alS (zq_alS (zq_alS (zq_alS (zq_alS (zq_alS (zq_alS (zq_alS (zq_alS (zq_alS (zq_alS (zq_alS (zq_alS (zq_alS (zq_alS (zq_alS (zq_alS (zq_alS (zq_alS (zq_alS (zq_alS (zq_alS (zq_alS (zq_alS (zq_alS (zq_alS (zq_alS (zq_alS (zq_alS (zq_alS (zq_alS (zq_alS (zq_alS (zq_alS (zq_alS (zq_alS (zq_alS (zq_alS (zq_alS (zq_alS (zq_alS (zq_alS (zq_alS (zq_alS (zq_alS (zq_alS (zq_alS (zq_alS (zq_alS (zq_alS (zq_alS (zq_alS (zq_alS (zq_alS (zq_alS (zq_alS (zq_alS (zq_alS (zq_alS (zq_alS (zq_alS (zq_alS (zq_alS (zq_alS (zq_alS (zq_alS (zq_alS (zq_alS (zq_alS zq_al0 (va_eqt (hs _ fg_32))) (va_eqt (hs _ fg_33))) (va_eqt (hs _ fg_34))) (va_eqt (hs _ fg_35))) (va_eqt (hs _ fg_36))) (va_eqt (hs _ fg_37))) (va_eqt (hs _ fg_38))) (va_eqt (hs _ fg_39))) (va_eqt (hs _ fg_40))) (va_eqt (hs _ fg_41))) (va_eqt (hs _ fg_42))) (va_eqt (hs _ fg_43))) (va_eqt (hs _ fg_44))) (va_eqt (hs _ fg_45))) (va_eqt (hs _ fg_46))) (va_eqt (hs _ fg_47))) (va_eqt (hs _ fg_48))) (va_eqt (hs _ fg_49))) (va_eqt (hs _ fg_50))) (va_eqt (hs _ fg_51))) (va_eqt (hs _ fg_52))) (va_eqt (hs _ fg_53))) (va_eqt (hs _ fg_54))) (va_eqt (hs _ fg_55))) (va_eqt (hs _ fg_56))) (va_eqt (hs _ fg_57))) (va_eqt (hs _ fg_58))) (va_eqt (hs _ fg_59))) (va_eqt (hs _ fg_60))) (va_eqt (hs _ fg_61))) (va_eqt (hs _ fg_62))) (va_eqt (hs _ fg_63))) (va_eqt (hs _ fg_64))) (va_eqt (hs _ fg_65))) (va_eqt (hs _ fg_66))) (va_eqt (hs _ fg_67))) (va_eqt (hs _ fg_68))) (va_eqt (hs _ fg_69))) (va_eqt (hs _ fg_70))) (va_eqt (hs _ fg_71))) (va_eqt (hs _ fg_72))) (va_eqt (hs _ fg_73))) (va_eqt (hs _ fg_74))) (va_eqt (hs _ fg_75))) (va_eqt (hs _ fg_76))) (va_eqt (hs _ fg_77))) (va_eqt (hs _ fg_78))) (va_eqt (hs _ fg_79))) (va_eqt (hs _ fg_80))) (va_eqt (hs _ fg_81))) (va_eqt (hs _ fg_82))) (va_eqt (hs _ fg_83))) (va_eqt (hs _ fg_84))) (va_eqt (hs _ fg_85))) (va_eqt (hs _ fg_86))) (va_eqt (hs _ fg_87))) (va_eqt (hs _ fg_88))) (va_eqt (hs _ fg_89))) (va_eqt (hs _ fg_90))) (va_eqt (hs _ fg_91))) (va_eqt (hs _ fg_92))) (va_eqt (hs _ fg_93))) (va_eqt (hs _ fg_94))) (va_eqt (hs _ fg_95))) (va_eqt (hs _ fg_96))) (va_eqt (hs _ fg_97))) (va_eqt (hs _ fg_98))) (va_eqt (hs _ fg_99))) (va_eqt (hs _ fg_100))) (va_eqt (hs _ fg_101))) (va_eqt (hs _ fg_102))) (va_eqt (hs _ fg_103))) (va_eqt (hs _ fg_104))) (va_eqt (hs _ fg_105))) (va_eqt (hs _ fg_106))) (va_eqt (hs _ fg_107))) (va_eqt (hs _ fg_108))) (va_eqt (hs _ fg_109))) (va_eqt (hs _ fg_110))) (va_eqt (hs _ fg_111))) (va_eqt (hs _ fg_112))) (va_eqt (hs _ fg_113))) (va_eqt (hs _ fg_114))) (va_eqt (hs _ fg_115))) (va_eqt (hs _ fg_116))) (va_eqt (hs _ fg_117))) (va_eqt (hs _ fg_118))) (va_eqt (hs _ fg_119))) (va_eqt (hs _ fg_120))) (va_eqt (hs _ fg_121))) (va_eqt (hs _ fg_122))) (va_eqt (hs _ fg_123))) (va_eqt (hs _ fg_124))) (va_eqt (hs _ fg_125))) (va_eqt (hs _ fg_126))) (va_eqt (hs _ fg_127))) (va_eqt (hs _ fg_128))) (va_eqt (hs _ fg_129))) (va_eqt (hs _ fg_130))) (va_eqt (hs _ fg_131))) (by decide) hA
set_option maxRecDepth 100000 in
set_option maxHeartbeats 4000000 in
theorem zq_st2 {s : State} {b : Nat} (hts : ∀ w ∈ lw_tbl, w.before #[Value.ref b] s = true) (hgv : (Jvm.Cond.and given_1 narrow_1).before #[Value.ref b] s = true) {A : Nat → Prop} (hA : ∀ a : Nat, a < s.heap.size → ¬ A a) : ∃ t : Nat, va_Z "java/lang/Integer" "DigitTens" "[B" (.ref t) A s s.heap ∧ va_T .byte t 100 (fun j => .int (([48, 48, 48, 48, 48, 48, 48, 48, 48, 48, 49, 49, 49, 49, 49, 49, 49, 49, 49, 49, 50, 50, 50, 50, 50, 50, 50, 50, 50, 50, 51, 51, 51, 51, 51, 51, 51, 51, 51, 51, 52, 52, 52, 52, 52, 52, 52, 52, 52, 52, 53, 53, 53, 53, 53, 53, 53, 53, 53, 53, 54, 54, 54, 54, 54, 54, 54, 54, 54, 54, 55, 55, 55, 55, 55, 55, 55, 55, 55, 55, 56, 56, 56, 56, 56, 56, 56, 56, 56, 56, 57, 57, 57, 57, 57, 57, 57, 57, 57, 57] : List Int32).getD j 0)) A s s.heap := by
  have hs := flat_of_before _ hgv
  exact zq_sta (hts _ fw_1107) (hts _ fw_28) (hs _ fg_133) (va_eqt (hs _ fg_134)) (zq_alS (zq_alS (zq_alS (zq_alS (zq_alS (zq_alS (zq_alS (zq_alS (zq_alS (zq_alS (zq_alS (zq_alS (zq_alS (zq_alS (zq_alS (zq_alS (zq_alS (zq_alS (zq_alS (zq_alS (zq_alS (zq_alS (zq_alS (zq_alS (zq_alS (zq_alS (zq_alS (zq_alS (zq_alS (zq_alS (zq_alS (zq_alS (zq_alS (zq_alS (zq_alS (zq_alS (zq_alS (zq_alS (zq_alS (zq_alS (zq_alS (zq_alS (zq_alS (zq_alS (zq_alS (zq_alS (zq_alS (zq_alS (zq_alS (zq_alS (zq_alS (zq_alS (zq_alS (zq_alS (zq_alS (zq_alS (zq_alS (zq_alS (zq_alS (zq_alS (zq_alS (zq_alS (zq_alS (zq_alS (zq_alS (zq_alS (zq_alS (zq_alS (zq_alS (zq_alS (zq_alS (zq_alS (zq_alS (zq_alS (zq_alS (zq_alS (zq_alS (zq_alS (zq_alS (zq_alS (zq_alS (zq_alS (zq_alS (zq_alS (zq_alS (zq_alS (zq_alS (zq_alS (zq_alS (zq_alS (zq_alS (zq_alS (zq_alS (zq_alS (zq_alS (zq_alS (zq_alS (zq_alS (zq_alS (zq_alS zq_al0 (va_eqt (hs _ fg_135))) (va_eqt (hs _ fg_136))) (va_eqt (hs _ fg_137))) (va_eqt (hs _ fg_138))) (va_eqt (hs _ fg_139))) (va_eqt (hs _ fg_140))) (va_eqt (hs _ fg_141))) (va_eqt (hs _ fg_142))) (va_eqt (hs _ fg_143))) (va_eqt (hs _ fg_144))) (va_eqt (hs _ fg_145))) (va_eqt (hs _ fg_146))) (va_eqt (hs _ fg_147))) (va_eqt (hs _ fg_148))) (va_eqt (hs _ fg_149))) (va_eqt (hs _ fg_150))) (va_eqt (hs _ fg_151))) (va_eqt (hs _ fg_152))) (va_eqt (hs _ fg_153))) (va_eqt (hs _ fg_154))) (va_eqt (hs _ fg_155))) (va_eqt (hs _ fg_156))) (va_eqt (hs _ fg_157))) (va_eqt (hs _ fg_158))) (va_eqt (hs _ fg_159))) (va_eqt (hs _ fg_160))) (va_eqt (hs _ fg_161))) (va_eqt (hs _ fg_162))) (va_eqt (hs _ fg_163))) (va_eqt (hs _ fg_164))) (va_eqt (hs _ fg_165))) (va_eqt (hs _ fg_166))) (va_eqt (hs _ fg_167))) (va_eqt (hs _ fg_168))) (va_eqt (hs _ fg_169))) (va_eqt (hs _ fg_170))) (va_eqt (hs _ fg_171))) (va_eqt (hs _ fg_172))) (va_eqt (hs _ fg_173))) (va_eqt (hs _ fg_174))) (va_eqt (hs _ fg_175))) (va_eqt (hs _ fg_176))) (va_eqt (hs _ fg_177))) (va_eqt (hs _ fg_178))) (va_eqt (hs _ fg_179))) (va_eqt (hs _ fg_180))) (va_eqt (hs _ fg_181))) (va_eqt (hs _ fg_182))) (va_eqt (hs _ fg_183))) (va_eqt (hs _ fg_184))) (va_eqt (hs _ fg_185))) (va_eqt (hs _ fg_186))) (va_eqt (hs _ fg_187))) (va_eqt (hs _ fg_188))) (va_eqt (hs _ fg_189))) (va_eqt (hs _ fg_190))) (va_eqt (hs _ fg_191))) (va_eqt (hs _ fg_192))) (va_eqt (hs _ fg_193))) (va_eqt (hs _ fg_194))) (va_eqt (hs _ fg_195))) (va_eqt (hs _ fg_196))) (va_eqt (hs _ fg_197))) (va_eqt (hs _ fg_198))) (va_eqt (hs _ fg_199))) (va_eqt (hs _ fg_200))) (va_eqt (hs _ fg_201))) (va_eqt (hs _ fg_202))) (va_eqt (hs _ fg_203))) (va_eqt (hs _ fg_204))) (va_eqt (hs _ fg_205))) (va_eqt (hs _ fg_206))) (va_eqt (hs _ fg_207))) (va_eqt (hs _ fg_208))) (va_eqt (hs _ fg_209))) (va_eqt (hs _ fg_210))) (va_eqt (hs _ fg_211))) (va_eqt (hs _ fg_212))) (va_eqt (hs _ fg_213))) (va_eqt (hs _ fg_214))) (va_eqt (hs _ fg_215))) (va_eqt (hs _ fg_216))) (va_eqt (hs _ fg_217))) (va_eqt (hs _ fg_218))) (va_eqt (hs _ fg_219))) (va_eqt (hs _ fg_220))) (va_eqt (hs _ fg_221))) (va_eqt (hs _ fg_222))) (va_eqt (hs _ fg_223))) (va_eqt (hs _ fg_224))) (va_eqt (hs _ fg_225))) (va_eqt (hs _ fg_226))) (va_eqt (hs _ fg_227))) (va_eqt (hs _ fg_228))) (va_eqt (hs _ fg_229))) (va_eqt (hs _ fg_230))) (va_eqt (hs _ fg_231))) (va_eqt (hs _ fg_232))) (va_eqt (hs _ fg_233))) (va_eqt (hs _ fg_234))) (by decide) hA
end
section
-- 9o2a.words.lean.txt
-- words of the start
theorem q_1168 : (Jvm.Cond.laysFinal "java/lang/String" "java/lang/String" "value" "[B") ∈ AW := AW_m5 208 (by decide +kernel) (by decide +kernel)
theorem q_1170 : (Jvm.Cond.laysFinal "java/lang/String" "java/lang/String" "coder" "B") ∈ AW := AW_m5 210 (by decide +kernel) (by decide +kernel)
theorem q_1172 : (Jvm.Cond.lays "java/lang/String" "java/lang/String" "hash" "I") ∈ AW := AW_m5 212 (by decide +kernel) (by decide +kernel)
theorem q_1174 : (Jvm.Cond.lays "java/lang/String" "java/lang/String" "hashIsZero" "Z") ∈ AW := AW_m5 214 (by decide +kernel) (by decide +kernel)
theorem inA_J0 : ∀ w ∈ u_ws RJ0 TJ0 4, w ∈ AW := show ∀ w ∈ ([Cond.laysFinal "java/lang/String" "java/lang/String" "value" "[B", Cond.laysFinal "java/lang/String" "java/lang/String" "coder" "B", Cond.lays "java/lang/String" "java/lang/String" "hash" "I", Cond.lays "java/lang/String" "java/lang/String" "hashIsZero" "Z"] : List Cond), w ∈ AW from List.forall_mem_cons.mpr ⟨q_1168, List.forall_mem_cons.mpr ⟨q_1170, List.forall_mem_cons.mpr ⟨q_1172, List.forall_mem_cons.mpr ⟨q_1174, fun _ h => absurd h List.not_mem_nil⟩⟩⟩⟩
end
section
-- 9o3.envof.lean.txt
set_option maxRecDepth 100000 in
set_option maxHeartbeats 4000000 in
theorem env_of {s : State} {b : Nat} (hts : ∀ w ∈ lw_tbl, w.before #[Value.ref b] s = true) (hgv : (Jvm.Cond.and given_1 narrow_1).before #[Value.ref b] s = true) : ∃ (D : va_G) (cs : Nat → ClassId) (tt : Nat), zE D (fun q => s.heap.size ≤ q) cs tt s := by
  have hs := flat_of_before _ hgv
  have hA : ∀ a : Nat, a < s.heap.size → ¬ (fun q => s.heap.size ≤ q) a := fun a h h2 => Nat.lt_irrefl _ (Nat.lt_of_lt_of_le h h2)
  have hAW : ∀ w ∈ AW, w.before #[Value.ref b] s = true := fun w h => hts w (List.mem_filter.mp h).1
  obtain ⟨c0, i0, k0⟩ := u_known (C := RJ0) (T := TJ0) (N := 4) (n := 4) hAW inA_J0 (hts _ fw_1123)
  obtain ⟨c1, i1, k1⟩ := u_known (C := RJ4) (T := TJ4) (N := 4) (n := 4) hAW inA_J4 (hts _ fw_318)
  obtain ⟨c2, i2, k2⟩ := u_known (C := RX0) (T := TX0) (N := 4) (n := 4) hAW inA_X0 (hts _ fw_284)
  obtain ⟨c3, i3, k3⟩ := u_known (C := RX1) (T := TX1) (N := 1) (n := 1) hAW inA_X1 (hts _ fw_308)
  obtain ⟨c4, i4, k4⟩ := u_known (C := RX2) (T := TX2) (N := 4) (n := 4) hAW inA_X2 (hts _ fw_211)
  obtain ⟨c5, i5, k5⟩ := u_known (C := RX3) (T := TX3) (N := 3) (n := 3) hAW inA_X3 (hts _ fw_149)
  obtain ⟨c6, i6, k6⟩ := u_known (C := RX4) (T := TX4) (N := 3) (n := 3) hAW inA_X4 (hts _ fw_234)
  obtain ⟨c7, i7, k7⟩ := u_known (C := RX5) (T := TX5) (N := 9) (n := 9) hAW inA_X5 (hts _ fw_74)
  obtain ⟨c8, i8, k8⟩ := u_known (C := RX6) (T := TX6) (N := 6) (n := 6) hAW inA_X6 (hts _ fw_136)
  obtain ⟨c9, i9, k9⟩ := u_known (C := RX7) (T := TX7) (N := 9) (n := 9) hAW inA_X7 (hts _ fw_38)
  obtain ⟨c10, i10, k10⟩ := u_known (C := RX8) (T := TX8) (N := 7) (n := 7) hAW inA_X8 (hts _ fw_142)
  obtain ⟨c11, i11, k11⟩ := u_known (C := RX9) (T := TX9) (N := 14) (n := 14) hAW inA_X9 (hts _ fw_30)
  obtain ⟨c12, i12, k12⟩ := u_known (C := RX10) (T := TX10) (N := 60) (n := 60) hAW inA_X10 (hts _ fw_1450)
  obtain ⟨a0, ka0, co0, fa0, ha0, hk0⟩ := Cond.arrayClass_spec (hts _ fw_72)
  obtain ⟨a1, ka1, co1, fa1, ha1, hk1⟩ := Cond.arrayClass_spec (hts _ fw_134)
  obtain ⟨a2, ka2, co2, fa2, ha2, hk2⟩ := Cond.arrayClass_spec (hts _ fw_2116)
  have ao3 : va_AO RX3 s := va_AO.of (hts _ fw_148)
  obtain ⟨co3, a3, ka3, fc3, -, ha3, hk3, fa3⟩ := Cond.arrayOver_spec ao3
  have ao4 : va_AO RX8 s := va_AO.of (hts _ fw_207)
  obtain ⟨co4, a4, ka4, fc4, -, ha4, hk4, fa4⟩ := Cond.arrayOver_spec ao4
  have ao5 : va_AO RX4 s := va_AO.of (hts _ fw_209)
  obtain ⟨co5, a5, ka5, fc5, -, ha5, hk5, fa5⟩ := Cond.arrayOver_spec ao5
  have ao6 : va_AOA .int s := hts _ fw_290
  obtain ⟨co6, a6, ka6, fc6, -, ha6, hk6, fa6⟩ := arrayOverA_spec ao6
  have hel : ∀ j : Nat, j < 15 → (Term.elem (.static "SnowRecorder" "TABLE" "[I") (.int (Int32.ofNat j))).eval #[Value.ref b] s none [] s = some (.int (zI (tabZ j))) := by
    intro j hj
    rcases (show j = 0 ∨ j = 1 ∨ j = 2 ∨ j = 3 ∨ j = 4 ∨ j = 5 ∨ j = 6 ∨ j = 7 ∨ j = 8 ∨ j = 9 ∨ j = 10 ∨ j = 11 ∨ j = 12 ∨ j = 13 ∨ j = 14 by omega) with rfl | rfl | rfl | rfl | rfl | rfl | rfl | rfl | rfl | rfl | rfl | rfl | rfl | rfl | rfl
    · exact va_eqt (hs _ fg_7)
    · exact va_eqt (hs _ fg_8)
    · exact va_eqt (hs _ fg_9)
    · exact va_eqt (hs _ fg_10)
    · exact va_eqt (hs _ fg_11)
    · exact va_eqt (hs _ fg_12)
    · exact va_eqt (hs _ fg_13)
    · exact va_eqt (hs _ fg_14)
    · exact va_eqt (hs _ fg_15)
    · exact va_eqt (hs _ fg_16)
    · exact va_eqt (hs _ fg_17)
    · exact va_eqt (hs _ fg_18)
    · exact va_eqt (hs _ fg_19)
    · exact va_eqt (hs _ fg_20)
    · exact va_eqt (hs _ fg_21)
  obtain ⟨tt, ht, hTB⟩ := zTB_of (hs _ fg_5) (hs _ fg_968) (va_eqt (hs _ fg_6)) hel hA
  obtain ⟨sa0, sv0, hsk0⟩ := zq_so0 hts hgv hA
  obtain ⟨sa1, sv1, hsk1⟩ := zq_so1 hts hgv hA
  obtain ⟨sa2, sv2, hsk2⟩ := zq_so2 hts hgv hA
  obtain ⟨sa3, sv3, hsk3⟩ := zq_so3 hts hgv hA
  obtain ⟨sa4, sv4, hsk4⟩ := zq_so4 hts hgv hA
  obtain ⟨sa5, sv5, hsk5⟩ := zq_so5 hts hgv hA
  obtain ⟨sa6, sv6, hsk6⟩ := zq_so6 hts hgv hA
  obtain ⟨sa7, sv7, hsk7⟩ := zq_so7 hts hgv hA
  obtain ⟨sa8, sv8, hsk8⟩ := zq_so8 hts hgv hA
  obtain ⟨sa9, sv9, hsk9⟩ := zq_so9 hts hgv hA
  obtain ⟨sa10, sv10, hsk10⟩ := zq_so10 hts hgv hA
  obtain ⟨sa11, sv11, hsk11⟩ := zq_so11 hts hgv hA
  obtain ⟨sa12, sv12, hsk12⟩ := zq_so12 hts hgv hA
  obtain ⟨sa13, sv13, hsk13⟩ := zq_so13 hts hgv hA
  obtain ⟨sa14, sv14, hsk14⟩ := zq_so14 hts hgv hA
  obtain ⟨sa15, sv15, hsk15⟩ := zq_so15 hts hgv hA
  obtain ⟨sa16, sv16, hsk16⟩ := zq_so16 hts hgv hA
  obtain ⟨sa17, sv17, hsk17⟩ := zq_so17 hts hgv hA
  obtain ⟨sr0, hsr0⟩ := zq_st0 hts hgv hA
  obtain ⟨sr1, hsr1⟩ := zq_st1 hts hgv hA
  obtain ⟨sr2, hsr2⟩ := zq_st2 hts hgv hA
  refine ⟨(fun k => match k with | 0 => c0 | 1 => c1 | 2 => c2 | 3 => c3 | 4 => c4 | 5 => c5 | 6 => c6 | 7 => c7 | 8 => c8 | 9 => c9 | 10 => c10 | 11 => c11 | _ => c12, fun k => match k with | 0 => i0 | 1 => i1 | 2 => i2 | 3 => i3 | 4 => i4 | 5 => i5 | 6 => i6 | 7 => i7 | 8 => i8 | 9 => i9 | 10 => i10 | 11 => i11 | _ => i12), zq_cs [a0, a1, a2, a3, a4, a5, a6] [sa0, sa1, sa2, sa3, sa4, sa5, sa6, sa7, sa8, sa9, sa10, sa11, sa12, sa13, sa14, sa15, sa16, sa17] [sv0, sv1, sv2, sv3, sv4, sv5, sv6, sv7, sv8, sv9, sv10, sv11, sv12, sv13, sv14, sv15, sv16, sv17] [sr0, sr1, sr2], tt, ⟨?_, ?_⟩, ?_, fun q h => h, ⟨ao3, ao4, ao5, ao6⟩, ⟨?_, hTB, ?_⟩, ⟨?_, ?_⟩, ?_, ?_, ⟨?_, ?_, ?_⟩⟩
  · intro k q hq
    match k, hq with
    | 0, hq => cases hq; exact k0
    | 1, hq => cases hq; exact k1
    | 2, hq => cases hq; exact k2
    | 3, hq => cases hq; exact k3
    | 4, hq => cases hq; exact k4
    | 5, hq => cases hq; exact k5
    | 6, hq => cases hq; exact k6
    | 7, hq => cases hq; exact k7
    | 8, hq => cases hq; exact k8
    | 9, hq => cases hq; exact k9
    | 10, hq => cases hq; exact k10
    | 11, hq => cases hq; exact k11
    | 12, hq => cases hq; exact k12
    | k + 13, hq => simp [vwCl] at hq
  · intro k q hq
    match k, hq with
    | 0, hq => cases hq; exact ⟨arrT_of ha0 hk0, fa0⟩
    | 1, hq => cases hq; exact ⟨arrT_of ha1 hk1, fa1⟩
    | 2, hq => cases hq; exact ⟨arrT_of ha2 hk2, fa2⟩
    | 3, hq => cases hq; exact ⟨arrT_of ha3 hk3, ⟨ka3, co3, ha3, hk3, fc3, fa3⟩⟩
    | 4, hq => cases hq; exact ⟨arrT_of ha4 hk4, ⟨ka4, co4, ha4, hk4, fc4, fa4⟩⟩
    | 5, hq => cases hq; exact ⟨arrT_of ha5 hk5, ⟨ka5, co5, ha5, hk5, fc5, fa5⟩⟩
    | 6, hq => cases hq; exact ⟨arrT_of ha6 hk6, fa6⟩
    | k + 7, hq => simp [tyL] at hq
  · intro w hw
    have h1 := (List.mem_filter.mp hw).2
    simp only [Bool.and_eq_true] at h1
    exact va_Nw.of h1.1 (hts w (List.mem_filter.mp hw).1)
  · exact va_Zref (hts _ fw_80) (hts _ fw_1) ht hA
  · exact va_Zof (hts _ fw_327) (hts _ fw_13) (va_eqt (hs _ fg_22)) hA
  · exact vx_Zqof (hts _ fw_685) (hts _ fw_16) (hs _ fg_23) hA
  · exact vx_Zqof (hts _ fw_687) (hts _ fw_16) (hs _ fg_24) hA
  · unfold SRL
    exact List.forall_mem_cons.mpr ⟨sr_of (hts _ fw_698) (hs _ fg_389), List.forall_mem_cons.mpr ⟨sr_of (hts _ fw_913) (hs _ fg_549), List.forall_mem_cons.mpr ⟨sr_of (hts _ fw_927) (hs _ fg_566), List.forall_mem_cons.mpr ⟨sr_of (hts _ fw_928) (hs _ fg_582), List.forall_mem_cons.mpr ⟨sr_of (hts _ fw_944) (hs _ fg_610), List.forall_mem_cons.mpr ⟨sr_of (hts _ fw_947) (hs _ fg_627), List.forall_mem_cons.mpr ⟨sr_of (hts _ fw_959) (hs _ fg_655), List.forall_mem_cons.mpr ⟨sr_of (hts _ fw_966) (hs _ fg_672), List.forall_mem_cons.mpr ⟨sr_of (hts _ fw_1202) (hs _ fg_775), List.forall_mem_cons.mpr ⟨sr_of (hts _ fw_1223) (hs _ fg_791), List.forall_mem_cons.mpr ⟨sr_of (hts _ fw_1227) (hs _ fg_815), List.forall_mem_cons.mpr ⟨sr_of (hts _ fw_1247) (hs _ fg_836), List.forall_mem_cons.mpr ⟨sr_of (hts _ fw_1320) (hs _ fg_861), List.forall_mem_cons.mpr ⟨sr_of (hts _ fw_1321) (hs _ fg_876), List.forall_mem_cons.mpr ⟨sr_of (hts _ fw_1348) (hs _ fg_902), List.forall_mem_cons.mpr ⟨sr_of (hts _ fw_1415) (hs _ fg_924), List.forall_mem_cons.mpr ⟨sr_of (hts _ fw_1432) (hs _ fg_946), fun _ h => absurd h List.not_mem_nil⟩⟩⟩⟩⟩⟩⟩⟩⟩⟩⟩⟩⟩⟩⟩⟩⟩
  · exact va_Nc.of (hs _ fg_342)
  · unfold SKL
    exact List.forall_mem_cons.mpr ⟨hsk0, List.forall_mem_cons.mpr ⟨hsk1, List.forall_mem_cons.mpr ⟨hsk2, List.forall_mem_cons.mpr ⟨hsk3, List.forall_mem_cons.mpr ⟨hsk4, List.forall_mem_cons.mpr ⟨hsk5, List.forall_mem_cons.mpr ⟨hsk6, List.forall_mem_cons.mpr ⟨hsk7, List.forall_mem_cons.mpr ⟨hsk8, List.forall_mem_cons.mpr ⟨hsk9, List.forall_mem_cons.mpr ⟨hsk10, List.forall_mem_cons.mpr ⟨hsk11, List.forall_mem_cons.mpr ⟨hsk12, List.forall_mem_cons.mpr ⟨hsk13, List.forall_mem_cons.mpr ⟨hsk14, List.forall_mem_cons.mpr ⟨hsk15, List.forall_mem_cons.mpr ⟨hsk16, List.forall_mem_cons.mpr ⟨hsk17, fun _ h => absurd h List.not_mem_nil⟩⟩⟩⟩⟩⟩⟩⟩⟩⟩⟩⟩⟩⟩⟩⟩⟩⟩
  · unfold STL
    exact List.forall_mem_cons.mpr ⟨hsr0, List.forall_mem_cons.mpr ⟨hsr1, List.forall_mem_cons.mpr ⟨hsr2, fun _ h => absurd h List.not_mem_nil⟩⟩⟩
  · exact va_Zqof (hts _ fw_782) (hts _ fw_23) (hs _ fg_25) hA
end
section
-- 9pa.skel.lean.txt
/-! THE CLAIM OUT OF ONE WALK OF THE LAW'S BODY. Your part is whole_start (and what it stands on); all else here is the same for every law, but numbers. -/
def R_law : String := "SnowRecorderLaw"
def lw_P (b : Addr) (xs : List Int32) (args : Array Value) (s : State) : Prop := args = #[.ref b] ∧ s.IntsAt b xs ∧ xs.length ≤ 3072 ∧ (Jvm.Cond.and given_1 narrow_1).before args s = true
def lw_Q (_ : Array Value) (s : State) (o : Outcome) (t : State) : Prop := o = .returned (some (.int 1)) ∧ Framed s o t [] 601024 7293034
def lw_Z (below : List Frame) (a : Array Value) (s : State) : State → Prop := fun t => ∃ o, t.status = .running ∧ Ended t below o ∧ lw_Q a s o t
/-- the law's own end, with 1 on the stack, nothing written that was there before, its room as the claim has it -/
theorem lw_ret {p : Program} {l : Launch} {e : Env} {s : State} {m : MethodId} {below : List Frame} {meth : Method} {c : Code} {b : Nat} (hx : p.tables.exec = Jvm.exec) (hb : c.code = code) (hr : meth.sig.returnType = ret) (hlocks : meth.locks = false) {pc : Nat} {H : Heap} {ls : Array Slot} (hdg : decode code pc = .ok (.ireturn, 1)) : W p l e room_1 s m #[Value.ref b] below meth c H [] 601024 7293034 (lw_Z below #[Value.ref b] s) (F0 m pc ls [.int 1]) := by
  intro T hT X
  obtain ⟨fs, hret, hrun, hended, hW, hframe⟩ := X.leave (v := some (.int 1)) (hlocks := hlocks) (fun h => by rw [hr] at h; cases h)
  have hmeth' : T.vm.method? m = some meth := X.method'
  refine ⟨T.setFrames fs, ?_, .returned (some (.int 1)), hrun, hended, rfl, ⟨_, rfl⟩, hW, hframe⟩
  jvm_step X.here [X.here.top, hx, hb, hdg, hmeth', hr, ret, narrow_b1]
  (try refine ⟨rfl, ?_⟩); (try refine ⟨rfl, ?_⟩)
  first | (intro acts; rw [hret _ acts rfl rfl rfl]) | rw [hret _ _ rfl rfl rfl]
  exact Steps.refl _
/-- what holds at the law's entry: the machine, the code, the tables' words (any of lw_tbl by 'hts w (by decide +kernel)'), the script of L ints xs at the cell b, what the Statement gives of the start (any of its parts by flat_of_before) -/
def lw_At (p : Program) (s : State) (m : MethodId) (meth : Method) (c : Code) (b L : Nat) (xs : Nat → Int32) : Prop :=
  p.tables.exec = Jvm.exec ∧ c.code = code ∧ meth.sig.returnType = ret ∧ c.maxLocals = 7 ∧ s.vm.findClass R_law = some m.cls ∧ (∀ w ∈ lw_tbl, w.before #[Value.ref b] s = true) ∧ va_X b L xs s s.heap ∧ b < s.heap.size ∧ meth.locks = false ∧ (Jvm.Cond.and given_1 narrow_1).before #[Value.ref b] s = true
section ZLaw
variable {p : Program} {l : Launch} {e : Env} {R : Room} {s : State} {m : MethodId} {args : Array Value} {below : List Frame} {meth : Method} {c : Code} {Q : State → Prop} {D : va_G} {A : Nat → Prop} {cs : Nat → ClassId} {tt : Nat} {cc : ByteArray} {nL : Nat} {own : String} {N : Nat} {ad : Nat → Nat} {g : Nat → va_E} {k n pc : Nat} {lv : List (Nat × Value)} {rest : List Value}
theorem z_sld (C : zC p s m args c cc nL own D A cs tt) {b L : Nat} {xs : Nat → Int32} (hX : va_X b L xs s s.heap) (hbl : b < s.heap.size) (hbA : ¬ A b) (j : Nat) {z x : Int} (hz : z = (j : Int)) (hj : j < L) (hL : L ≤ 2147483647) (hx : xs j = zI x) (hdg : decode cc pc = .ok (.iaload, 1)) (kk : zV p l e R s m args below meth c Q D A nL N ad g k n (pc + 1) (lv) (.int (zI x) :: rest)) : zV p l e R s m args below meth c Q D A nL N ad g k n (pc) (lv) (.int (zI z) :: .ref b :: rest) := by
  subst hz
  exact fun H locs ls hP hD hS hl => va_sld C.1 C.2.1 hX hbl hbA hS (zI_in hj hL) hdg (by rw [zI_clN (by omega), hx]; exact kk H locs ls hP hD hS hl)
theorem z_slen (C : zC p s m args c cc nL own D A cs tt) {b L : Nat} {xs : Nat → Int32} (hX : va_X b L xs s s.heap) (hbl : b < s.heap.size) (hbA : ¬ A b) (hdg : decode cc pc = .ok (.arraylength, 1)) (kk : zV p l e R s m args below meth c Q D A nL N ad g k n (pc + 1) (lv) (.int (zI (L : Int)) :: rest)) : zV p l e R s m args below meth c Q D A nL N ad g k n (pc) (lv) (.ref b :: rest) :=
  fun H locs ls hP hD hS hl => va_slen C.1 C.2.1 hX hbl hbA hS hdg (by rw [zI_nat]; exact kk H locs ls hP hD hS hl)
theorem z_lend {b : Nat} (C : zC p s m #[Value.ref b] c code 7 own D A cs tt) (hr : meth.sig.returnType = ret) (hlk : meth.locks = false) (hA : ∀ q, A q → s.heap.size ≤ q) (hdg : decode code pc = .ok (.ireturn, 1)) (hk : k ≤ 601024) (hn : n ≤ 7293034) : zV p l e room_1 s m #[Value.ref b] below meth c (lw_Z below #[Value.ref b] s) D A 7 N ad g k n (pc) (lv) [.int (zI 1)] :=
  fun H locs ls hP hD hS hl => va_forget (fun q hq => hA _ (hS.2.2 q hq)) (W.widen hk hn (lw_ret C.1 C.2.1 hr hlk hdg))
theorem okMr.grow {ad' : Nat → Nat} {g' : Nat → va_E} {i : Nat} {x : Int} {F r st op ai fa mu tb tp : Nat → Int} (h : okMr cs ad g i x F r st op ai fa mu tb tp) (hA : ∀ j, i ≤ j → j < i + 30 → ad' j = ad j) (hG : ∀ j, i ≤ j → j < i + 30 → g' j = g j) : okMr cs ad' g' i x F r st op ai fa mu tb tp := by
  obtain ⟨h1, h2, h3, h4, h5, ns, nh, nd, rf, pi, te, ki, li, ok1, ok2, fo, dd, dps, ⟨b1, b2, b3, b4, b5, b6, b7, b8, b9, b10, b11, b12, b13, b14, b15, b24, b25, b26, b27, b28, b29⟩, h6, h7, h8, h9⟩ := h
  refine ⟨?_, h2, h3, h4.mv (fun j a b => hG j (by omega) (by omega)) ⟨rfl, rfl, rfl, Int.le_refl _⟩, h5, ns, nh, nd, rf, pi, te, ki, li, ok1, ok2, fo, dd, dps, ⟨(hG _ (by omega) (by omega)).trans b1, (hG _ (by omega) (by omega)).trans b2, (hG _ (by omega) (by omega)).trans b3, (hG _ (by omega) (by omega)).trans b4, (hG _ (by omega) (by omega)).trans b5, (hG _ (by omega) (by omega)).trans b6, (hG _ (by omega) (by omega)).trans b7, (hG _ (by omega) (by omega)).trans b8, (hG _ (by omega) (by omega)).trans b9, (hG _ (by omega) (by omega)).trans b10, (hG _ (by omega) (by omega)).trans b11, (hG _ (by omega) (by omega)).trans b12, (hG _ (by omega) (by omega)).trans b13, (hG _ (by omega) (by omega)).trans b14, (hG _ (by omega) (by omega)).trans b15, (hG _ (by omega) (by omega)).trans b24, (hG _ (by omega) (by omega)).trans b25, (hG _ (by omega) (by omega)).trans b26, (hG _ (by omega) (by omega)).trans b27, (hG _ (by omega) (by omega)).trans b28, (hG _ (by omega) (by omega)).trans b29⟩, h6, h7, h8, h9⟩
  rw [hG _ (by omega) (by omega), h1]
  show oC 12 (mF ad i F) = oC 12 (mF ad' i F)
  have e : ∀ k, 1 ≤ k → k ≤ 29 → ad (i + k) = ad' (i + k) := fun k a b => (hA _ (by omega) (by omega)).symm
  simp only [mF, e 1 (by decide) (by decide), e 2 (by decide) (by decide), e 3 (by decide) (by decide), e 4 (by decide) (by decide), e 5 (by decide) (by decide), e 6 (by decide) (by decide), e 7 (by decide) (by decide), e 8 (by decide) (by decide), e 9 (by decide) (by decide), e 10 (by decide) (by decide), e 11 (by decide) (by decide), e 12 (by decide) (by decide), e 13 (by decide) (by decide), e 14 (by decide) (by decide), e 15 (by decide) (by decide), e 16 (by decide) (by decide), e 17 (by decide) (by decide), e 18 (by decide) (by decide), e 19 (by decide) (by decide), e 20 (by decide) (by decide), e 21 (by decide) (by decide), e 22 (by decide) (by decide), e 23 (by decide) (by decide), e 24 (by decide) (by decide), e 25 (by decide) (by decide), e 26 (by decide) (by decide), e 27 (by decide) (by decide), e 28 (by decide) (by decide), e 29 (by decide) (by decide)]
end ZLaw
/-- what both sides know alike: the recorder's parameters, the reference's fields and rows -/
def JD (t fp im nz kz sl ho : Int) (st op ai fa mu tb tp F sR oR aR fR mR bR pR : Nat → Int) : Prop := (F 23 = t ∧ F 24 = fp ∧ F 21 = im ∧ F 17 = nz ∧ (im = 1 → F 20 = kz) ∧ F 13 = sl ∧ F 14 = ho) ∧ (∀ k, k < 900 → -128 ≤ tp k ∧ tp k ≤ 127) ∧ (∀ k : Nat, (k : Int) < t → tp k = pR k ∨ tp k = pR k - 256) ∧ (∀ k : Nat, (k : Int) < ho → ai k = aR k ∧ fa k = fR k ∧ mu k = mR k) ∧ (∀ k : Nat, (k : Int) < sl → st k = sR k ∧ op k = oR k) ∧ ∀ k : Nat, k < 15 → tb k = bR k
theorem JD.keep {t fp im nz kz sl ho : Int} {st op ai fa mu tb tp F sR oR aR fR mR bR pR : Nat → Int} {F' : Nat → Int} (h : JD t fp im nz kz sl ho st op ai fa mu tb tp F sR oR aR fR mR bR pR) (hF : (F' 13 = F 13 ∧ F' 14 = F 14 ∧ F' 17 = F 17 ∧ F' 20 = F 20 ∧ F' 21 = F 21 ∧ F' 23 = F 23 ∧ F' 24 = F 24)) : JD t fp im nz kz sl ho st op ai fa mu tb tp (F') sR oR aR fR mR bR pR := by
  obtain ⟨⟨a1, a2, a3, a4, a5, a6, a7⟩, b⟩ := h
  obtain ⟨c1, c2, c3, c4, c5, c6, c7⟩ := hF
  exact ⟨⟨by omega, by omega, by omega, by omega, fun e => by have := a5 e; omega, by omega, by omega⟩, b⟩
theorem JD.notes {t fp im nz kz sl ho : Int} {st op ai fa mu tb tp F sR oR aR fR mR bR pR : Nat → Int} {F' : Nat → Int} {nz' : Int} (h : JD t fp im nz kz sl ho st op ai fa mu tb tp F sR oR aR fR mR bR pR) (hF : (F' 13 = F 13 ∧ F' 14 = F 14 ∧ F' 17 = F' 17 ∧ F' 20 = F 20 ∧ F' 21 = F 21 ∧ F' 23 = F 23 ∧ F' 24 = F 24)) (hn : F' 17 = nz') : JD t fp im (nz') kz sl ho st op ai fa mu tb tp (F') sR oR aR fR mR bR pR := by
  obtain ⟨⟨a1, a2, a3, a4, a5, a6, a7⟩, b⟩ := h
  obtain ⟨c1, c2, c3, c4, c5, c6, c7⟩ := hF
  exact ⟨⟨by omega, by omega, by omega, by omega, fun e => by have := a5 e; omega, by omega, by omega⟩, b⟩
theorem JD.image {t fp im nz kz sl ho : Int} {st op ai fa mu tb tp F sR oR aR fR mR bR pR : Nat → Int} {F' : Nat → Int} {im' kz' : Int} (h : JD t fp im nz kz sl ho st op ai fa mu tb tp F sR oR aR fR mR bR pR) (hF : (F' 13 = F 13 ∧ F' 14 = F 14 ∧ F' 17 = F 17 ∧ F' 20 = F 17 ∧ F' 21 = 1 ∧ F' 23 = F 23 ∧ F' 24 = F 24)) (hi : im' = 1 ∧ kz' = nz) : JD t fp (im') nz (kz') sl ho st op ai fa mu tb tp (F') sR oR aR fR mR bR pR := by
  obtain ⟨⟨a1, a2, a3, a4, a5, a6, a7⟩, b⟩ := h
  obtain ⟨c1, c2, c3, c4, c5, c6, c7⟩ := hF
  exact ⟨⟨by omega, by omega, by omega, by omega, fun e => by omega, by omega, by omega⟩, b⟩
theorem JD.feed {t fp im nz kz sl ho : Int} {st op ai fa mu tb tp F sR oR aR fR mR bR pR : Nat → Int} {F' tp' pR' : Nat → Int} {z z1 z2 z3 z4 : Int} (h : JD t fp im nz kz sl ho st op ai fa mu tb tp F sR oR aR fR mR bR pR) (ht : 0 ≤ t ∧ t ≤ 880) (hF : (F' 13 = F 13 ∧ F' 14 = F 14 ∧ F' 17 = F 17 ∧ F' 20 = F 20 ∧ F' 21 = F 21 ∧ F' 23 = F' 23 ∧ F' 24 = F 24)) (h23 : F' 23 = t + 20) (hp : ∀ k, k < 900 → 0 ≤ pR' k ∧ pR' k ≤ 255) (hA : (∀ j : Nat, (j : Int) < t ∨ t + 20 ≤ (j : Int) → tp' j = tp j) ∧ ∀ s : Nat, s < 4 → sB z s (tp' ((t).toNat + s)) ∧ sB z1 s (tp' ((t).toNat + 4 + s)) ∧ sB z2 s (tp' ((t).toNat + 8 + s)) ∧ sB z3 s (tp' ((t).toNat + 12 + s)) ∧ sB z4 s (tp' ((t).toNat + 16 + s))) (hB : (∀ j : Nat, (j : Int) < t ∨ t + 20 ≤ (j : Int) → pR' j = pR j) ∧ ∀ j : Nat, j < 20 → pR' ((t).toNat + j) = by8 (fdw z z1 z2 z3 z4 j) (j % 4)) : JD (t + 20) fp im nz kz sl ho st op ai fa mu tb (tp') (F') sR oR aR fR mR bR (pR') := by
  obtain ⟨⟨a1, a2, a3, a4, a5, a6, a7⟩, b1, b2, b⟩ := h
  obtain ⟨c1, c2, c3, c4, c5, c6, c7⟩ := hF
  have hk : ∀ k : Nat, t ≤ (k : Int) → (k : Int) < t + 20 → (-128 ≤ tp' k ∧ tp' k ≤ 127) ∧ (tp' k = pR' k ∨ tp' k = pR' k - 256) := by
    intro k h1 h2
    have hB2 : ∀ m s : Nat, m < 5 → s < 4 → pR' ((t).toNat + 4 * m + s) = by8 (fdw z z1 z2 z3 z4 (4 * m + s)) s := fun m s hm hs => by
      have h9 := hB.2 (4 * m + s) (by omega)
      rw [show (4 * m + s) % 4 = s by omega, ← Nat.add_assoc] at h9
      exact h9
    obtain ⟨m, s, hm, hs, e⟩ : ∃ m s : Nat, m < 5 ∧ s < 4 ∧ k = (t).toNat + 4 * m + s := ⟨(k - (t).toNat) / 4, (k - (t).toNat) % 4, by omega, by omega, by omega⟩
    have h8 := hB2 m s hm hs
    have h7 := hA.2 s hs
    unfold sB at h7
    subst e
    rw [h8]
    rcases (show m = 0 ∨ m = 1 ∨ m = 2 ∨ m = 3 ∨ m = 4 by omega) with rfl | rfl | rfl | rfl | rfl
    · rw [show fdw z z1 z2 z3 z4 (4 * 0 + s) = z by unfold fdw; rw [if_pos (by omega)]]
      exact h7.1
    · rw [show fdw z z1 z2 z3 z4 (4 * 1 + s) = z1 by unfold fdw; rw [if_neg (by omega), if_pos (by omega)]]
      exact h7.2.1
    · rw [show fdw z z1 z2 z3 z4 (4 * 2 + s) = z2 by unfold fdw; rw [if_neg (by omega), if_neg (by omega), if_pos (by omega)]]
      exact h7.2.2.1
    · rw [show fdw z z1 z2 z3 z4 (4 * 3 + s) = z3 by unfold fdw; rw [if_neg (by omega), if_neg (by omega), if_neg (by omega), if_pos (by omega)]]
      exact h7.2.2.2.1
    · rw [show fdw z z1 z2 z3 z4 (4 * 4 + s) = z4 by unfold fdw; rw [if_neg (by omega), if_neg (by omega), if_neg (by omega), if_neg (by omega)]]
      exact h7.2.2.2.2
  refine ⟨⟨by omega, by omega, by omega, by omega, fun e => by have := a5 e; omega, by omega, by omega⟩, fun k hk9 => ?_, fun k hk9 => ?_, b⟩
  · by_cases e : t ≤ (k : Int) ∧ (k : Int) < t + 20
    · exact (hk k e.1 e.2).1
    · rw [hA.1 k (by omega)]; exact b1 k hk9
  · by_cases e : t ≤ (k : Int)
    · exact (hk k e hk9).2
    · rw [hA.1 k (by omega), hB.1 k (by omega)]; exact b2 k (by omega)
theorem JD.snowE {t fp im nz kz sl ho : Int} {st op ai fa mu tb tp F sR oR aR fR mR bR pR : Nat → Int} {F' : Nat → Int} {pl : Int} (h : JD t fp im nz kz sl ho st op ai fa mu tb tp F sR oR aR fR mR bR pR) (hF : (F' 13 = F 13 ∧ F' 14 = F 14 ∧ F' 17 = F 17 ∧ F' 20 = F 20 ∧ F' 21 = F 21 ∧ F' 23 = 0 ∧ F' 24 = pl)) : JD (0) (pl) im nz kz sl ho st op ai fa mu tb tp (F') sR oR aR fR mR bR pR := by
  obtain ⟨⟨a1, a2, a3, a4, a5, a6, a7⟩, b1, b2, b⟩ := h
  obtain ⟨c1, c2, c3, c4, c5, c6, c7⟩ := hF
  exact ⟨⟨by omega, by omega, by omega, by omega, fun e => by have := a5 e; omega, by omega, by omega⟩, b1, fun k hk => absurd hk (by omega), b⟩
theorem JD.snowO {t fp im nz kz sl ho : Int} {st op ai fa mu tb tp F sR oR aR fR mR bR pR : Nat → Int} {F' sR' oR' aR' fR' mR' bR' : Nat → Int} {pl : Int} {s : Int × Int × Int × (Nat → Int) × (Nat → Int) × (Nat → Int) × (Nat → Int) × (Nat → Int) × (Nat → Int) × (Nat → Int) × (Nat → Int) × (Nat → Nat → Int)} (h : JD t fp im nz kz sl ho st op ai fa mu tb tp F sR oR aR fR mR bR pR) (hF : (F' 13 = s.1 ∧ F' 14 = s.2.1 ∧ F' 17 = 0 ∧ F' 20 = F 20 ∧ F' 21 = 0 ∧ F' 23 = 0 ∧ F' 24 = pl)) (hD : dT s sR' oR' aR' fR' mR' bR') : JD (0) (pl) (0) (0) kz (s.1) (s.2.1) (s.2.2.2.2.1) (s.2.2.2.2.2.1) (s.2.2.2.2.2.2.1) (s.2.2.2.2.2.2.2.1) (s.2.2.2.2.2.2.2.2.1) (s.2.2.2.2.2.2.2.2.2.1) tp (F') (sR') (oR') (aR') (fR') (mR') (bR') pR := by
  obtain ⟨⟨a1, a2, a3, a4, a5, a6, a7⟩, b1, b2, b⟩ := h
  obtain ⟨c1, c2, c3, c4, c5, c6, c7⟩ := hF
  refine ⟨⟨by omega, by omega, by omega, by omega, fun e => absurd e (by decide), by omega, by omega⟩, b1, fun k hk => absurd hk (by omega), fun k hk => ?_, fun k hk => ?_, fun k hk => (hD.2.2 k hk).symm⟩
  · have h9 := hD.2.1 k hk
    exact ⟨h9.1.symm, h9.2.1.symm, h9.2.2.symm⟩
  · have h9 := hD.1 k hk
    exact ⟨h9.1.symm, h9.2.symm⟩
theorem JD.un {t fp im nz kz sl ho : Int} {st op ai fa mu tb tp F sR oR aR fR mR bR pR : Nat → Int} (h : JD t fp im nz kz sl ho st op ai fa mu tb tp F sR oR aR fR mR bR pR) {n : Nat} (hn : (n : Int) ≤ t) (hp : ∀ k, k < 900 → 0 ≤ pR k ∧ pR k ≤ 255) (ht : t ≤ 900) : (∀ k, k < n → 0 ≤ unS tp k ∧ unS tp k ≤ 255) ∧ ∀ k, k < n → pR k = unS tp k := by
  have h1 := h.2.1
  have h2 := h.2.2.1
  refine ⟨fun k hk => ?_, fun k hk => ?_⟩
  · have h3 := h1 k (by omega)
    unfold unS
    by_cases e : tp k < 0
    · rw [if_pos e]; omega
    · rw [if_neg e]; omega
  · have h3 := h1 k (by omega)
    have h4 := h2 k (by omega)
    have h5 := hp k (by omega)
    unfold unS
    by_cases e : tp k < 0
    · rw [if_pos e]; omega
    · rw [if_neg e]; omega
/-- both sides between two calls -/
def JI (cs : Nat → ClassId) (ad : Nat → Nat) (g : Nat → va_E) (N : Nat) (x : Int) : Prop := ∃ (t fp im nz kz sl ho : Int) (st op ai fa mu tb tp F r sR oR aR fR mR bR pR : Nat → Int), okRec cs ad g N t fp im nz kz sl ho 0 st op ai fa mu tb tp ∧ okMr cs ad g 921 x F r sR oR aR fR mR bR pR ∧ JD t fp im nz kz sl ho st op ai fa mu tb tp F sR oR aR fR mR bR pR ∧ JW cs ad g x im nz kz sl ho st op ai fa mu tb F r
theorem JW.pl {cs : Nat → ClassId} {ad : Nat → Nat} {g : Nat → va_E} {x im nz kz sl ho : Int} {st op ai fa mu tb F r : Nat → Int} (h : JW cs ad g x im nz kz sl ho st op ai fa mu tb F r) : plF F := by
  obtain ⟨_, _, _, _, _, _, _, _, _, _, _, _, _, _, _, ⟨h, _⟩, _⟩ := h
  exact h
theorem okMr.tape {cs : Nat → ClassId} {ad : Nat → Nat} {g : Nat → va_E} {i : Nat} {x : Int} {F r st op ai fa mu tb tp : Nat → Int} (h : okMr cs ad g i x F r st op ai fa mu tb tp) : ∀ k, k < 900 → 0 ≤ tp k ∧ tp k ≤ 255 := by
  obtain ⟨_, _, _, _, _, _, _, _, _, _, _, _, _, _, _, _, _, _, _, _, _, _, h⟩ := h
  exact h
theorem okMr.monoJ {cs : Nat → ClassId} {ad : Nat → Nat} {g : Nat → va_E} {N : Nat} {x y : Int} (h : JI cs ad g N x) (hxy : x ≤ y) : JI cs ad g N y := by
  obtain ⟨t, fp, im, nz, kz, sl, ho, st, op, ai, fa, mu, tb, tp, F, r, sR, oR, aR, fR, mR, bR, pR, h1, h2, h3, h4⟩ := h
  obtain ⟨nsl, na, nak, H, Hk, W, Wk, P, Pk, ns, nh, nd, rr, pp, q1, q2, q3, q4, q5, q6, q7⟩ := h4
  exact ⟨t, fp, im, nz, kz, sl, ho, st, op, ai, fa, mu, tb, tp, F, r, sR, oR, aR, fR, mR, bR, pR, h1, h2.mono hxy, h3, nsl, na, nak, H, Hk, W, Wk, P, Pk, ns, nh, nd, rr, pp, q1, q2, q3, q4, q5.mv hxy (fun _ _ _ => rfl) (fun _ _ _ => rfl) rfl rfl (fun _ _ => rfl) (fun _ _ => ⟨rfl, rfl, rfl⟩) (fun _ _ => rfl) (fun _ _ => rfl), q6.mv hxy (fun _ _ _ => rfl) (fun _ _ _ => rfl) rfl rfl (fun _ _ => rfl) (fun _ _ => ⟨rfl, rfl, rfl⟩) (fun _ _ => rfl) (fun _ _ => rfl), q7⟩
end

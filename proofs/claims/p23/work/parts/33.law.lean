def f_L_law_L33 (xs : Nat → Int32) (L : Nat) : Nat → Int32 → OS → OS → OS → OS → OS → OS → OS → OS → OS → OS → Option ((Int32) × Nat × Nat)
  | 0, _, _, _, _, _, _, _, _, _, _, _ => none
  | n33 + 1, x7, u8, u9, u10, u11, u12, u13, u14, u15, u16, u17 =>
    if ((Int32.ofNat L) - (3 : Int32)) < x7 then (
    some ((1 : Int32), 0, 0)) else (
    gdi x7 L <|
    bnd ((xs (x7).toNatClampNeg) &&& (31 : Int32)) fun x20 =>
    if x20 = (0 : Int32) then (
    gdi (x7 + (1 : Int32)) L <|
    oA2 (f_X6_add u8 (xs ((x7 + (1 : Int32))).toNatClampNeg)) fun u22 r24 kc26 ks26 =>
    addc kc26 ks26 <|
    gdi (x7 + (1 : Int32)) L <|
    oC2 (f_X7_add u16 (xs ((x7 + (1 : Int32))).toNatClampNeg)) fun u29 r30 =>
    bnd (x7 + (3 : Int32)) fun x32 =>
    f_L_law_L33 xs L n33 x32 u22 u9 u10 u11 u12 u13 u14 u15 u29 u17) else (
    if x20 = (1 : Int32) then (
    oC2 (f_X6_clear u8) fun u33 r34 =>
    oC2 (f_X7_clear u16) fun u36 r37 =>
    bnd (x7 + (3 : Int32)) fun x39 =>
    f_L_law_L33 xs L n33 x39 u33 u9 u10 u11 u12 u13 u14 u15 u36 u17) else (
    if x20 = (2 : Int32) then (
    gdi (x7 + (1 : Int32)) L <|
    gdi (x7 + (2 : Int32)) L <|
    oC3 (f_X6_count u8 u10 (xs ((x7 + (1 : Int32))).toNatClampNeg) (xs ((x7 + (2 : Int32))).toNatClampNeg)) fun u42 u43 r44 =>
    gdi (x7 + (1 : Int32)) L <|
    gdi (x7 + (2 : Int32)) L <|
    oC2 (f_X7_count u16 (xs ((x7 + (1 : Int32))).toNatClampNeg) (xs ((x7 + (2 : Int32))).toNatClampNeg)) fun u48 r49 =>
    bnd (x7 + (3 : Int32)) fun x51 =>
    f_L_law_L33 xs L n33 x51 u42 u9 u43 u11 u12 u13 u14 u15 u48 u17) else (
    if x20 = (3 : Int32) then (
    oC3 (f_X6_counts u8 u10) fun u52 u53 r54 =>
    oC2 (f_X7_counts u16) fun u56 r57 =>
    bnd (x7 + (3 : Int32)) fun x59 =>
    f_L_law_L33 xs L n33 x59 u52 u9 u53 u11 u12 u13 u14 u15 u56 u17) else (
    if x20 = (4 : Int32) then (
    oC3 (f_X6_normal u8 u9 u10) fun u60 u61 r62 =>
    oC2 (f_X7_normal u16) fun u64 r65 =>
    bnd (x7 + (3 : Int32)) fun x67 =>
    f_L_law_L33 xs L n33 x67 u8 u60 u61 u11 u12 u13 u14 u15 u64 u17) else (
    if x20 = (5 : Int32) then (
    gdi (x7 + (1 : Int32)) L <|
    oC1 (f_X6_share u8 u10 (xs ((x7 + (1 : Int32))).toNatClampNeg)) fun r69 =>
    gdi (x7 + (1 : Int32)) L <|
    oC2 (f_X7_share u16 (xs ((x7 + (1 : Int32))).toNatClampNeg)) fun u72 r73 =>
    bnd (x7 + (3 : Int32)) fun x75 =>
    f_L_law_L33 xs L n33 x75 u8 u9 u10 u11 u12 u13 u14 u15 u72 u17) else (
    if x20 = (6 : Int32) then (
    oC2 (f_X6_loss u8 u9 u10) fun u76 r77 =>
    oC2 (f_X7_loss u16) fun u79 r80 =>
    bnd (x7 + (3 : Int32)) fun x82 =>
    f_L_law_L33 xs L n33 x82 u8 u76 u10 u11 u12 u13 u14 u15 u79 u17) else (
    if x20 = (7 : Int32) then (
    gdi (x7 + (1 : Int32)) L <|
    oC2 (f_X6_lg u8 u9 (xs ((x7 + (1 : Int32))).toNatClampNeg)) fun u84 r85 =>
    gdi (x7 + (1 : Int32)) L <|
    oC2 (f_X7_lg u16 (xs ((x7 + (1 : Int32))).toNatClampNeg)) fun u88 r89 =>
    bnd (x7 + (3 : Int32)) fun x91 =>
    f_L_law_L33 xs L n33 x91 u8 u84 u10 u11 u12 u13 u14 u15 u88 u17) else (
    if x20 = (8 : Int32) then (
    gdi (x7 + (1 : Int32)) L <|
    oC2 (f_X6_form u8 (xs ((x7 + (1 : Int32))).toNatClampNeg)) fun u93 r94 =>
    gdi (x7 + (1 : Int32)) L <|
    oC2 (f_X7_form u16 (xs ((x7 + (1 : Int32))).toNatClampNeg)) fun u97 r98 =>
    bnd (x7 + (3 : Int32)) fun x100 =>
    f_L_law_L33 xs L n33 x100 u93 u9 u10 u11 u12 u13 u14 u15 u97 u17) else (
    if x20 = (9 : Int32) then (
    gdi (x7 + (1 : Int32)) L <|
    oC2 (f_X6_lanes u8 (xs ((x7 + (1 : Int32))).toNatClampNeg)) fun u102 r103 =>
    gdi (x7 + (1 : Int32)) L <|
    oC2 (f_X7_lanes u16 (xs ((x7 + (1 : Int32))).toNatClampNeg)) fun u106 r107 =>
    bnd (x7 + (3 : Int32)) fun x109 =>
    f_L_law_L33 xs L n33 x109 u102 u9 u10 u11 u12 u13 u14 u15 u106 u17) else (
    if x20 = (10 : Int32) then (
    oA5 (f_X6_write u8 u10 u11 u12 u15) fun u110 u111 u112 u113 r117 kc119 ks119 =>
    addc kc119 ks119 <|
    oC2 (f_X7_write u16) fun u121 r122 =>
    bnd (x7 + (3 : Int32)) fun x124 =>
    f_L_law_L33 xs L n33 x124 u8 u9 u110 u111 u112 u13 u14 u113 u121 u17) else (
    if x20 = (11 : Int32) then (
    oA3 (f_X6_read u8 u13 u14 u15) fun u125 u126 r129 kc131 ks131 =>
    addc kc131 ks131 <|
    oC2 (f_X7_read u16) fun u133 r134 =>
    bnd (x7 + (3 : Int32)) fun x136 =>
    f_L_law_L33 xs L n33 x136 u8 u9 u10 u11 u12 u125 u126 u15 u133 u17) else (
    if x20 = (12 : Int32) then (
    oC1 (f_X6_rule u8 u13) fun r137 =>
    oC2 (f_X7_rule u16) fun u139 r140 =>
    bnd (x7 + (3 : Int32)) fun x142 =>
    f_L_law_L33 xs L n33 x142 u8 u9 u10 u11 u12 u13 u14 u15 u139 u17) else (
    if x20 = (13 : Int32) then (
    gdi (x7 + (1 : Int32)) L <|
    oC1 (f_X6_sign u8 u13 (xs ((x7 + (1 : Int32))).toNatClampNeg)) fun r144 =>
    gdi (x7 + (1 : Int32)) L <|
    oC2 (f_X7_sign u16 (xs ((x7 + (1 : Int32))).toNatClampNeg)) fun u147 r148 =>
    bnd (x7 + (3 : Int32)) fun x150 =>
    f_L_law_L33 xs L n33 x150 u8 u9 u10 u11 u12 u13 u14 u15 u147 u17) else (
    if x20 = (14 : Int32) then (
    gdi (x7 + (1 : Int32)) L <|
    oA3 (f_Lspread u8 u10 u17 (xs ((x7 + (1 : Int32))).toNatClampNeg)) fun u152 u153 r155 kc156 ks156 =>
    addc kc156 ks156 <|
    gdi (x7 + (1 : Int32)) L <|
    oC2 (f_X7_spread u16 (xs ((x7 + (1 : Int32))).toNatClampNeg)) fun u158 r159 =>
    bnd (x7 + (3 : Int32)) fun x161 =>
    f_L_law_L33 xs L n33 x161 u8 u9 u152 u11 u12 u13 u14 u15 u158 u153) else (
    if x20 = (15 : Int32) then (
    gdi (x7 + (1 : Int32)) L <|
    gdi (x7 + (2 : Int32)) L <|
    oC1 (f_X6_state u8 u11 u13 (xs ((x7 + (1 : Int32))).toNatClampNeg) (xs ((x7 + (2 : Int32))).toNatClampNeg)) fun r164 =>
    gdi (x7 + (1 : Int32)) L <|
    gdi (x7 + (2 : Int32)) L <|
    oC2 (f_X7_state u16 (xs ((x7 + (1 : Int32))).toNatClampNeg) (xs ((x7 + (2 : Int32))).toNatClampNeg)) fun u168 r169 =>
    bnd (x7 + (3 : Int32)) fun x171 =>
    f_L_law_L33 xs L n33 x171 u8 u9 u10 u11 u12 u13 u14 u15 u168 u17) else (
    if x20 = (16 : Int32) then (
    gdi (x7 + (1 : Int32)) L <|
    oC1 (f_X6_out u8 u15 (xs ((x7 + (1 : Int32))).toNatClampNeg)) fun r173 =>
    gdi (x7 + (1 : Int32)) L <|
    oC2 (f_X7_out u16 (xs ((x7 + (1 : Int32))).toNatClampNeg)) fun u176 r177 =>
    bnd (x7 + (3 : Int32)) fun x179 =>
    f_L_law_L33 xs L n33 x179 u8 u9 u10 u11 u12 u13 u14 u15 u176 u17) else (
    if x20 = (17 : Int32) then (
    gdi (x7 + (1 : Int32)) L <|
    gdi (x7 + (2 : Int32)) L <|
    oC2 (f_X6_spoil u8 u15 (xs ((x7 + (1 : Int32))).toNatClampNeg) (xs ((x7 + (2 : Int32))).toNatClampNeg)) fun u182 r183 =>
    gdi (x7 + (1 : Int32)) L <|
    gdi (x7 + (2 : Int32)) L <|
    oC2 (f_X7_spoil u16 (xs ((x7 + (1 : Int32))).toNatClampNeg) (xs ((x7 + (2 : Int32))).toNatClampNeg)) fun u187 r188 =>
    bnd (x7 + (3 : Int32)) fun x190 =>
    f_L_law_L33 xs L n33 x190 u8 u9 u10 u11 u12 u13 u14 u182 u187 u17) else (
    if x20 = (18 : Int32) then (
    gdi (x7 + (1 : Int32)) L <|
    oC2 (f_X6_cut u8 u15 (xs ((x7 + (1 : Int32))).toNatClampNeg)) fun u192 r193 =>
    gdi (x7 + (1 : Int32)) L <|
    oC2 (f_X7_cut u16 (xs ((x7 + (1 : Int32))).toNatClampNeg)) fun u196 r197 =>
    bnd (x7 + (3 : Int32)) fun x199 =>
    f_L_law_L33 xs L n33 x199 u8 u9 u10 u11 u12 u13 u14 u192 u196 u17) else (
    if x20 = (19 : Int32) then (
    gdi (x7 + (1 : Int32)) L <|
    oA2 (f_X6_octet u8 u15 (xs ((x7 + (1 : Int32))).toNatClampNeg)) fun u201 r203 kc205 ks205 =>
    addc kc205 ks205 <|
    gdi (x7 + (1 : Int32)) L <|
    oC2 (f_X7_octet u16 (xs ((x7 + (1 : Int32))).toNatClampNeg)) fun u208 r209 =>
    bnd (x7 + (3 : Int32)) fun x211 =>
    f_L_law_L33 xs L n33 x211 u8 u9 u10 u11 u12 u13 u14 u201 u208 u17) else (
    if x20 = (20 : Int32) then (
    oA7 (f_X6_agree u8 u10 u11 u12 u13 u14 u15) fun u212 u213 u214 u215 u216 u217 r223 kc225 ks225 =>
    addc kc225 ks225 <|
    oC2 (f_X7_agree u16) fun u227 r228 =>
    bnd (x7 + (3 : Int32)) fun x230 =>
    f_L_law_L33 xs L n33 x230 u8 u9 u212 u213 u214 u215 u216 u217 u227 u17) else (
    if x20 = (21 : Int32) then (
    gdi (x7 + (1 : Int32)) L <|
    oC1 (f_X6_told u8 u10 u13 u15 (xs ((x7 + (1 : Int32))).toNatClampNeg)) fun r232 =>
    gdi (x7 + (1 : Int32)) L <|
    oC2 (f_X7_told u16 (xs ((x7 + (1 : Int32))).toNatClampNeg)) fun u235 r236 =>
    if r232 = r236 then (
    bnd (x7 + (3 : Int32)) fun x239 =>
    f_L_law_L33 xs L n33 x239 u8 u9 u10 u11 u12 u13 u14 u15 u235 u17) else (
    some ((0 : Int32), 0, 0))) else (
    bnd (x7 + (3 : Int32)) fun x240 =>
    f_L_law_L33 xs L n33 x240 u8 u9 u10 u11 u12 u13 u14 u15 u16 u17)))))))))))))))))))))))

def f_law (xs : Nat → Int32) (L : Nat) (uX : OS) (uL : OS) (uS : OS) (uW : OS) (uP : OS) (uR : OS) (uZ : OS) (uO : OS) (uM : OS) (uY : OS) (p4 : Int32) : Option ((Int32) × Nat × Nat) :=
  f_L_law_L33 xs L FU p4 uX uL uS uW uP uR uZ uO uM uY

set_option maxHeartbeats 40000000 in
set_option maxRecDepth 100000 in
theorem law_loop {p : Program} {l : Launch} {e : Env} {s : State} {m : MethodId} {below : List Frame} {meth : Method} {c : Code} {b L : Nat} {xs : Nat → Int32} (hfl : l.flags = pinnedFlags ++ [noTraceFlag]) (C0 : lw_At p s m meth c b L xs) (dC : Nat → ClassId) (dI : Nat → Nat → Nat) (cI cJ : ClassId) (aX : Nat) (jX : Nat → Nat) (aL : Nat) (jL : Nat → Nat) (aS : Nat) (jS : Nat → Nat) (aW : Nat) (jW : Nat → Nat) (aP : Nat) (jP : Nat → Nat) (aR : Nat) (jR : Nat → Nat) (aZ : Nat) (jZ : Nat → Nat) (aO : Nat) (jO : Nat → Nat) (aM : Nat) (jM : Nat → Nat) (jY : Nat → Nat) (uX : OS) (uL : OS) (uS : OS) (uW : OS) (uP : OS) (uR : OS) (uZ : OS) (uO : OS) (uM : OS) (uY : OS) (p4 : Int32) (mc ms : Nat) (hmc : mc ≤ 601024) (hms : ms ≤ 7293000) (ce sl kc ks : Nat) (hm : f_law xs L uX uL uS uW uP uR uZ uO uM uY p4 = some ((1 : Int32), kc, ks)) (hc1 : ce + kc = mc) (hc2 : sl + ks = ms) (hK : va_K (dC, dI) vwCl [(cI, .int), (cJ, .long)] s) (hN : NW s) (hTH : TH s) (H : Heap) (locs : List Loc) (ls : Array Slot) (hP : va_P (dC, dI) vwCl ([wX cI cJ aX jX aL aS aW aR aO uX, wL cI cJ aL jL uL, wS cI cJ aS jS uS, wW cI cJ aW jW aP uW, wP cI cJ aP jP uP, wR cI cJ aR jR aZ uR, wS cI cJ aZ jZ uZ, wO cI cJ aO jO uO, wM cI cJ aM jM uM, wY cI cJ jY uY] : List va_W).flatten H) (hD : va_D (fun q : Nat => s.heap.size ≤ q) ([wX cI cJ aX jX aL aS aW aR aO uX, wL cI cJ aL jL uL, wS cI cJ aS jS uS, wW cI cJ aW jW aP uW, wP cI cJ aP jP uP, wR cI cJ aR jR aZ uR, wS cI cJ aZ jZ uZ, wO cI cJ aO jO uO, wM cI cJ aM jM uM, wY cI cJ jY uY] : List va_W).flatten) (hS : va_S (fun q : Nat => s.heap.size ≤ q) s.heap H locs) (hl : lv_has ls 7 [(0, .ref b), (1, .ref aX), (2, .ref aM), (3, .ref (jY 0)), (4, .int p4)]) : W p l e room_1 s m #[Value.ref b] below meth c H locs ce sl (lw_Z below #[Value.ref b] s) (F0 m 33 ls []) := by
  obtain ⟨hx, hb, hr, hml, hown, hts, hX, hbl, hlocks, hgv⟩ := C0
  have ht : ∀ w ∈ lw_good, w.before _ s = true := fun w h => hts w (List.mem_filter.mp h).1
  obtain ⟨A, hAe⟩ := ex_eq (fun q : Nat => s.heap.size ≤ q)
  rw [← hAe] at hD hS
  have hA : ∀ q : Nat, s.heap.size ≤ q → A q := fun q h => by rw [hAe]; exact h
  have hA2 : ∀ q : Nat, A q → s.heap.size ≤ q := fun q h => by rw [hAe] at h; exact h
  have hbA : ¬ A b := fun h => absurd (hA2 b h) (Nat.not_le.mpr hbl)
  generalize hQ : lw_Z below #[Value.ref b] s = Q
  unfold f_law at hm
  have LP33 : ∀ (n33 : Nat) (x7 : Int32) (u8 : OS) (u9 : OS) (u10 : OS) (u11 : OS) (u12 : OS) (u13 : OS) (u14 : OS) (u15 : OS) (u16 : OS) (u17 : OS) (hg1 : Nat → Nat) (hg2 : Nat → Nat) (hg3 : Nat → Nat) (hg4 : Nat → Nat) (hg5 : Nat → Nat) (hg6 : Nat → Nat) (ce sl kc ks : Nat) (H : Heap) (locs : List Loc) (ls : Array Slot), f_L_law_L33 xs L n33 x7 u8 u9 u10 u11 u12 u13 u14 u15 u16 u17 = some ((1 : Int32), kc, ks) → ce + kc = mc → sl + ks = ms → va_P (dC, dI) vwCl ([wX cI cJ aX hg1 aL aS aW aR aO u8, wL cI cJ aL jL u9, wS cI cJ aS hg2 u10, wW cI cJ aW jW aP u11, wP cI cJ aP hg3 u12, wR cI cJ aR hg4 aZ u13, wS cI cJ aZ hg5 u14, wO cI cJ aO hg6 u15, wM cI cJ aM jM u16, wY cI cJ jY u17] : List va_W).flatten H → va_D A ([wX cI cJ aX hg1 aL aS aW aR aO u8, wL cI cJ aL jL u9, wS cI cJ aS hg2 u10, wW cI cJ aW jW aP u11, wP cI cJ aP hg3 u12, wR cI cJ aR hg4 aZ u13, wS cI cJ aZ hg5 u14, wO cI cJ aO hg6 u15, wM cI cJ aM jM u16, wY cI cJ jY u17] : List va_W).flatten → va_S A s.heap H locs → lv_has ls 7 [(0, .ref b), (1, .ref aX), (2, .ref aM), (3, .ref (jY 0)), (4, .int x7)] → W p l e room_1 s m #[Value.ref b] below meth c H locs ce sl Q (F0 m 33 ls []) := by
    intro n33
    induction n33 with
    | zero => intro x7 u8 u9 u10 u11 u12 u13 u14 u15 u16 u17 hg1 hg2 hg3 hg4 hg5 hg6 ce sl kc ks H locs ls hm; exact nomatch (show (none : Option _) = some _ from hm)
    | succ n33 ih33 =>
      intro x7 u8 u9 u10 u11 u12 u13 u14 u15 u16 u17 hg1 hg2 hg3 hg4 hg5 hg6 ce sl kc ks H locs ls hm hc1 hc2 hP hD hS hl
      unfold f_L_law_L33 at hm
      refine lv_iload hx hb dL_law_33 (lv_at hl 4 rfl) ?_
      refine lv_aload_n hx hb dL_law_35 rfl (lv_at hl 0 rfl) ?_
      refine va_slen hx hb hX hbl hbA hS dL_law_36 ?_
      refine lv_iconst (v := (3 : Int32)) hx hb dL_law_37 (by decide) ?_
      refine lv_isub hx hb dL_law_38 ?_
      refine lv_icmp_gt (tgt := 651) hx hb dL_law_39 (by decide) (fun c18 => ?_) (fun c18 => ?_)
      · have hm := ite_t c18 hm
        refine lv_iconst (v := (1 : Int32)) hx hb dL_law_651 (by decide) ?_
        obtain ⟨hmz, hz1, hz2⟩ := ret0 hm
        subst hz1
        subst hz2
        refine va_forget (fun q hq => hA2 q.base (hS.2.2 q hq)) ?_
        refine W.widen (k := 601024) (n := 7293000) (by omega) (by omega) ?_
        rw [← hQ]
        exact lw_ret hx hb hr hlocks dL_law_652
      · have hm := ite_f c18 hm
        refine lv_aload_n hx hb dL_law_42 rfl (lv_at hl 0 rfl) ?_
        refine lv_iload hx hb dL_law_43 (lv_at hl 4 rfl) ?_
        obtain ⟨g19, hm⟩ := gdi_of hm
        refine va_sld hx hb hX hbl hbA hS g19 dL_law_45 ?_
        refine lv_bipush (v := (31 : Int32)) hx hb dL_law_46 (by decide) ?_
        refine lv_iand hx hb dL_law_48 ?_
        refine lv_topi (fun x20 ex20 => ?_)
        have hm := bnd_nm ex20 hm
        by_cases c241 : x20 = (0 : Int32)
        · have hm := ite_t c241 hm
          refine lv_tableIn (tgt := 152) hx hb dL_law_49 (by rw [c241]; decide) (by rw [c241]; decide) (by rw [c241]; rfl) (by decide) ?_
          refine lv_aload_n hx hb dL_law_152 rfl (lv_at hl 1 rfl) ?_
          refine lv_aload_n hx hb dL_law_153 rfl (lv_at hl 0 rfl) ?_
          refine lv_iload hx hb dL_law_154 (lv_at hl 4 rfl) ?_
          refine lv_iconst (v := (1 : Int32)) hx hb dL_law_156 (by decide) ?_
          refine lv_iadd hx hb dL_law_157 ?_
          obtain ⟨g21, hm⟩ := gdi_of hm
          refine va_sld hx hb hX hbl hbA hS g21 dL_law_158 ?_
          have hPc : va_P (dC, dI) vwCl ([wX cI cJ aX hg1 aL aS aW aR aO u8] : List va_W).flatten _ := hP.subF [0] rfl
          have hDc : va_D A ([wX cI cJ aX hg1 aL aS aW aR aO u8] : List va_W).flatten := hD.subF [0] (by decide) rfl
          have hFc := va_freeF (fc := ([wX cI cJ aX hg1 aL aS aW aR aO u8] : List va_W)) hD hS hA [0] rfl
          obtain ⟨u22o, r24o, kc26, ks26, e25, hm⟩ := oA2_of hm
          obtain ⟨kcq27, ksq27, hm, hkcq27, hksq27⟩ := addc_of hm
          refine va_calli (va_runV (As := [.int (xs ((x7 + (1 : Int32))).toNatClampNeg)]) (rest := []) ⟨hx, hb, hml, hown, ht⟩ (c_X6_add l dC dI cI cJ aX hg1 aL aS aW aR aO H.size u8 (xs ((x7 + (1 : Int32))).toNatClampNeg) (u22o, r24o) kc26 ks26 e25) (cwV 1 ht (gdV kw_490 kw_488 kw_489 kw_161 kw_487) rfl rfl rfl ⟨rfl, nd_X6_add⟩ ⟨Nat.le_of_ble_eq_true rfl, Nat.le_of_ble_eq_true rfl⟩) ⟨pcW_blind, va_recv hK hPc (ci := 7) (q0 := 0) rfl rfl, pcW_pre hPc hK hDc hN⟩ rfl rfl hl.1 rfl (lv_room (Nat.le_of_ble_eq_true rfl)) dL_law_159 ⟨Nat.le_trans (cle hc1 hkcq27) hmc, Nat.le_trans (cle hc2 hksq27) hms⟩) hS (fun q _ z => hFc q z) hFc (fun r24 uu t H1 locs ht1 hvm hw hB hz1 hk1 hS => ?_)
          obtain ⟨u22, rfl⟩ : ∃ z, z = uu := ⟨_, rfl⟩
          obtain ⟨h23, hP1, hD1⟩ := hB
          rw [ht1] at hP1
          obtain ⟨q0, q1⟩ := inj2 hw
          subst q0
          subst q1
          obtain ⟨hP, hD⟩ := va_joinF (fr := ([wL cI cJ aL jL u9, wS cI cJ aS hg2 u10, wW cI cJ aW jW aP u11, wP cI cJ aP hg3 u12, wR cI cJ aR hg4 aZ u13, wS cI cJ aZ hg5 u14, wO cI cJ aO hg6 u15, wM cI cJ aM jM u16, wY cI cJ jY u17] : List va_W)) (f1 := ([wX cI cJ aX h23 aL aS aW aR aO u22] : List va_W)) hP hD [0] [1, 2, 3, 4, 5, 6, 7, 8, 9] rfl rfl (by decide) (by decide) hk1 hFc hP1 hD1
          have hP : va_P (dC, dI) vwCl ([wX cI cJ aX h23 aL aS aW aR aO u22, wL cI cJ aL jL u9, wS cI cJ aS hg2 u10, wW cI cJ aW jW aP u11, wP cI cJ aP hg3 u12, wR cI cJ aR hg4 aZ u13, wS cI cJ aZ hg5 u14, wO cI cJ aO hg6 u15, wM cI cJ aM jM u16, wY cI cJ jY u17] : List va_W).flatten H1 := hP.subF [9, 0, 1, 2, 3, 4, 5, 6, 7, 8] rfl
          have hD : va_D A ([wX cI cJ aX h23 aL aS aW aR aO u22, wL cI cJ aL jL u9, wS cI cJ aS hg2 u10, wW cI cJ aW jW aP u11, wP cI cJ aP hg3 u12, wR cI cJ aR hg4 aZ u13, wS cI cJ aZ hg5 u14, wO cI cJ aO hg6 u15, wM cI cJ aM jM u16, wY cI cJ jY u17] : List va_W).flatten := hD.subF [9, 0, 1, 2, 3, 4, 5, 6, 7, 8] (by decide) rfl
          generalize H1 = H at hP hS ⊢
          have hc1 := cadd hc1 hkcq27
          have hc2 := cadd hc2 hksq27
          refine lv_pop hx hb dL_law_162 rfl ?_
          refine lv_aload_n hx hb dL_law_163 rfl (lv_at hl 2 rfl) ?_
          refine lv_aload_n hx hb dL_law_164 rfl (lv_at hl 0 rfl) ?_
          refine lv_iload hx hb dL_law_165 (lv_at hl 4 rfl) ?_
          refine lv_iconst (v := (1 : Int32)) hx hb dL_law_167 (by decide) ?_
          refine lv_iadd hx hb dL_law_168 ?_
          obtain ⟨g28, hm⟩ := gdi_of hm
          refine va_sld hx hb hX hbl hbA hS g28 dL_law_169 ?_
          have hPc : va_P (dC, dI) vwCl ([wM cI cJ aM jM u16] : List va_W).flatten _ := hP.subF [8] rfl
          have hDc : va_D A ([wM cI cJ aM jM u16] : List va_W).flatten := hD.subF [8] (by decide) rfl
          have hFc := va_freeF (fc := ([wM cI cJ aM jM u16] : List va_W)) hD hS hA [8] rfl
          obtain ⟨u29o, r30o, e31, hm⟩ := oC2_of hm
          refine va_calli (va_runV (As := [.int (xs ((x7 + (1 : Int32))).toNatClampNeg)]) (rest := []) ⟨hx, hb, hml, hown, ht⟩ (c_X7_add l dC dI cI cJ aM jM H.size u16 (xs ((x7 + (1 : Int32))).toNatClampNeg) (u29o, r30o) e31) (cwV 1 ht (gdV kw_494 kw_492 kw_493 kw_7 kw_491) rfl rfl rfl ⟨rfl, nd_X7_add⟩ ⟨Nat.le_of_ble_eq_true rfl, Nat.le_of_ble_eq_true rfl⟩) ⟨pcW_blind, va_recv hK hPc (ci := 8) (q0 := 0) rfl rfl, pcW_pre hPc hK hDc hN⟩ rfl rfl hl.1 rfl (lv_room (Nat.le_of_ble_eq_true rfl)) dL_law_170 ⟨Nat.le_trans (cle0 hc1) hmc, Nat.le_trans (cle0 hc2) hms⟩) hS (fun q _ z => hFc q z) hFc (fun r30 uu t H1 locs ht1 hvm hw hB hz1 hk1 hS => ?_)
          obtain ⟨u29, rfl⟩ : ∃ z, z = uu := ⟨_, rfl⟩
          obtain ⟨hP1, hD1⟩ := hB
          rw [ht1] at hP1
          obtain ⟨q0, q1⟩ := inj2 hw
          subst q0
          subst q1
          obtain ⟨hP, hD⟩ := va_joinF (fr := ([wX cI cJ aX h23 aL aS aW aR aO u22, wL cI cJ aL jL u9, wS cI cJ aS hg2 u10, wW cI cJ aW jW aP u11, wP cI cJ aP hg3 u12, wR cI cJ aR hg4 aZ u13, wS cI cJ aZ hg5 u14, wO cI cJ aO hg6 u15, wY cI cJ jY u17] : List va_W)) (f1 := ([wM cI cJ aM jM u29] : List va_W)) hP hD [8] [0, 1, 2, 3, 4, 5, 6, 7, 9] rfl rfl (by decide) (by decide) hk1 hFc hP1 hD1
          have hP : va_P (dC, dI) vwCl ([wX cI cJ aX h23 aL aS aW aR aO u22, wL cI cJ aL jL u9, wS cI cJ aS hg2 u10, wW cI cJ aW jW aP u11, wP cI cJ aP hg3 u12, wR cI cJ aR hg4 aZ u13, wS cI cJ aZ hg5 u14, wO cI cJ aO hg6 u15, wM cI cJ aM jM u29, wY cI cJ jY u17] : List va_W).flatten H1 := hP.subF [0, 1, 2, 3, 4, 5, 6, 7, 9, 8] rfl
          have hD : va_D A ([wX cI cJ aX h23 aL aS aW aR aO u22, wL cI cJ aL jL u9, wS cI cJ aS hg2 u10, wW cI cJ aW jW aP u11, wP cI cJ aP hg3 u12, wR cI cJ aR hg4 aZ u13, wS cI cJ aZ hg5 u14, wO cI cJ aO hg6 u15, wM cI cJ aM jM u29, wY cI cJ jY u17] : List va_W).flatten := hD.subF [0, 1, 2, 3, 4, 5, 6, 7, 9, 8] (by decide) rfl
          generalize H1 = H at hP hS ⊢
          refine W.cs (Nat.add_zero _) (Nat.add_zero _) ?_
          refine lv_pop hx hb dL_law_173 rfl ?_
          refine lv_goto (tgt := 645) hx hb dL_law_174 (by decide) ?_
          obtain ⟨x32, ex32, hm⟩ := bnd_ex hm
          refine lv_iinc (v := x32) (lv' := [(4, .int x32), (0, .ref b), (1, .ref aX), (2, .ref aM), (3, .ref (jY 0))]) hx hb dL_law_645 hl (k := 4) rfl (by rw [ex32]; exact congrArg _ (by decide)) (by decide) rfl (fun ls hl => ?_)
          refine lv_goto (tgt := 33) hx hb dL_law_648 (by decide) ?_
          exact ih33 x32 u22 u9 u10 u11 u12 u13 u14 u15 u29 u17 h23 hg2 hg3 hg4 hg5 hg6 _ _ _ _ _ _ _ hm hc1 hc2 hP hD hS (lv_sub hl [1, 2, 3, 4, 0] rfl)
        · have hm := ite_f c241 hm
          by_cases c242 : x20 = (1 : Int32)
          · have hm := ite_t c242 hm
            refine lv_tableIn (tgt := 177) hx hb dL_law_49 (by rw [c242]; decide) (by rw [c242]; decide) (by rw [c242]; rfl) (by decide) ?_
            refine lv_aload_n hx hb dL_law_177 rfl (lv_at hl 1 rfl) ?_
            have hPc : va_P (dC, dI) vwCl ([wX cI cJ aX hg1 aL aS aW aR aO u8] : List va_W).flatten _ := hP.subF [0] rfl
            have hDc : va_D A ([wX cI cJ aX hg1 aL aS aW aR aO u8] : List va_W).flatten := hD.subF [0] (by decide) rfl
            have hFc := va_freeF (fc := ([wX cI cJ aX hg1 aL aS aW aR aO u8] : List va_W)) hD hS hA [0] rfl
            obtain ⟨u33o, r34o, e35, hm⟩ := oC2_of hm
            refine va_calli (va_runV (As := []) (rest := []) ⟨hx, hb, hml, hown, ht⟩ (c_X6_clear l dC dI cI cJ aX hg1 aL aS aW aR aO H.size u8 (u33o, r34o) e35) (cwV 0 ht (gdV kw_498 kw_496 kw_497 kw_161 kw_495) rfl rfl rfl ⟨rfl, nd_X6_clear⟩ ⟨Nat.le_of_ble_eq_true rfl, Nat.le_of_ble_eq_true rfl⟩) ⟨pcW_blind, va_recv hK hPc (ci := 7) (q0 := 0) rfl rfl, pcW_pre hPc hK hDc hN⟩ rfl rfl hl.1 rfl (lv_room (Nat.le_of_ble_eq_true rfl)) dL_law_178 ⟨Nat.le_trans (cle0 hc1) hmc, Nat.le_trans (cle0 hc2) hms⟩) hS (fun q _ z => hFc q z) hFc (fun r34 uu t H1 locs ht1 hvm hw hB hz1 hk1 hS => ?_)
            obtain ⟨u33, rfl⟩ : ∃ z, z = uu := ⟨_, rfl⟩
            obtain ⟨hP1, hD1⟩ := hB
            rw [ht1] at hP1
            obtain ⟨q0, q1⟩ := inj2 hw
            subst q0
            subst q1
            obtain ⟨hP, hD⟩ := va_joinF (fr := ([wL cI cJ aL jL u9, wS cI cJ aS hg2 u10, wW cI cJ aW jW aP u11, wP cI cJ aP hg3 u12, wR cI cJ aR hg4 aZ u13, wS cI cJ aZ hg5 u14, wO cI cJ aO hg6 u15, wM cI cJ aM jM u16, wY cI cJ jY u17] : List va_W)) (f1 := ([wX cI cJ aX hg1 aL aS aW aR aO u33] : List va_W)) hP hD [0] [1, 2, 3, 4, 5, 6, 7, 8, 9] rfl rfl (by decide) (by decide) hk1 hFc hP1 hD1
            have hP : va_P (dC, dI) vwCl ([wX cI cJ aX hg1 aL aS aW aR aO u33, wL cI cJ aL jL u9, wS cI cJ aS hg2 u10, wW cI cJ aW jW aP u11, wP cI cJ aP hg3 u12, wR cI cJ aR hg4 aZ u13, wS cI cJ aZ hg5 u14, wO cI cJ aO hg6 u15, wM cI cJ aM jM u16, wY cI cJ jY u17] : List va_W).flatten H1 := hP.subF [9, 0, 1, 2, 3, 4, 5, 6, 7, 8] rfl
            have hD : va_D A ([wX cI cJ aX hg1 aL aS aW aR aO u33, wL cI cJ aL jL u9, wS cI cJ aS hg2 u10, wW cI cJ aW jW aP u11, wP cI cJ aP hg3 u12, wR cI cJ aR hg4 aZ u13, wS cI cJ aZ hg5 u14, wO cI cJ aO hg6 u15, wM cI cJ aM jM u16, wY cI cJ jY u17] : List va_W).flatten := hD.subF [9, 0, 1, 2, 3, 4, 5, 6, 7, 8] (by decide) rfl
            generalize H1 = H at hP hS ⊢
            refine W.cs (Nat.add_zero _) (Nat.add_zero _) ?_
            refine lv_pop hx hb dL_law_181 rfl ?_
            refine lv_aload_n hx hb dL_law_182 rfl (lv_at hl 2 rfl) ?_
            have hPc : va_P (dC, dI) vwCl ([wM cI cJ aM jM u16] : List va_W).flatten _ := hP.subF [8] rfl
            have hDc : va_D A ([wM cI cJ aM jM u16] : List va_W).flatten := hD.subF [8] (by decide) rfl
            have hFc := va_freeF (fc := ([wM cI cJ aM jM u16] : List va_W)) hD hS hA [8] rfl
            obtain ⟨u36o, r37o, e38, hm⟩ := oC2_of hm
            refine va_calli (va_runV (As := []) (rest := []) ⟨hx, hb, hml, hown, ht⟩ (c_X7_clear l dC dI cI cJ aM jM H.size u16 (u36o, r37o) e38) (cwV 0 ht (gdV kw_502 kw_500 kw_501 kw_7 kw_499) rfl rfl rfl ⟨rfl, nd_X7_clear⟩ ⟨Nat.le_of_ble_eq_true rfl, Nat.le_of_ble_eq_true rfl⟩) ⟨pcW_blind, va_recv hK hPc (ci := 8) (q0 := 0) rfl rfl, pcW_pre hPc hK hDc hN⟩ rfl rfl hl.1 rfl (lv_room (Nat.le_of_ble_eq_true rfl)) dL_law_183 ⟨Nat.le_trans (cle0 hc1) hmc, Nat.le_trans (cle0 hc2) hms⟩) hS (fun q _ z => hFc q z) hFc (fun r37 uu t H1 locs ht1 hvm hw hB hz1 hk1 hS => ?_)
            obtain ⟨u36, rfl⟩ : ∃ z, z = uu := ⟨_, rfl⟩
            obtain ⟨hP1, hD1⟩ := hB
            rw [ht1] at hP1
            obtain ⟨q0, q1⟩ := inj2 hw
            subst q0
            subst q1
            obtain ⟨hP, hD⟩ := va_joinF (fr := ([wX cI cJ aX hg1 aL aS aW aR aO u33, wL cI cJ aL jL u9, wS cI cJ aS hg2 u10, wW cI cJ aW jW aP u11, wP cI cJ aP hg3 u12, wR cI cJ aR hg4 aZ u13, wS cI cJ aZ hg5 u14, wO cI cJ aO hg6 u15, wY cI cJ jY u17] : List va_W)) (f1 := ([wM cI cJ aM jM u36] : List va_W)) hP hD [8] [0, 1, 2, 3, 4, 5, 6, 7, 9] rfl rfl (by decide) (by decide) hk1 hFc hP1 hD1
            have hP : va_P (dC, dI) vwCl ([wX cI cJ aX hg1 aL aS aW aR aO u33, wL cI cJ aL jL u9, wS cI cJ aS hg2 u10, wW cI cJ aW jW aP u11, wP cI cJ aP hg3 u12, wR cI cJ aR hg4 aZ u13, wS cI cJ aZ hg5 u14, wO cI cJ aO hg6 u15, wM cI cJ aM jM u36, wY cI cJ jY u17] : List va_W).flatten H1 := hP.subF [0, 1, 2, 3, 4, 5, 6, 7, 9, 8] rfl
            have hD : va_D A ([wX cI cJ aX hg1 aL aS aW aR aO u33, wL cI cJ aL jL u9, wS cI cJ aS hg2 u10, wW cI cJ aW jW aP u11, wP cI cJ aP hg3 u12, wR cI cJ aR hg4 aZ u13, wS cI cJ aZ hg5 u14, wO cI cJ aO hg6 u15, wM cI cJ aM jM u36, wY cI cJ jY u17] : List va_W).flatten := hD.subF [0, 1, 2, 3, 4, 5, 6, 7, 9, 8] (by decide) rfl
            generalize H1 = H at hP hS ⊢
            refine W.cs (Nat.add_zero _) (Nat.add_zero _) ?_
            refine lv_pop hx hb dL_law_186 rfl ?_
            refine lv_goto (tgt := 645) hx hb dL_law_187 (by decide) ?_
            obtain ⟨x39, ex39, hm⟩ := bnd_ex hm
            refine lv_iinc (v := x39) (lv' := [(4, .int x39), (0, .ref b), (1, .ref aX), (2, .ref aM), (3, .ref (jY 0))]) hx hb dL_law_645 hl (k := 4) rfl (by rw [ex39]; exact congrArg _ (by decide)) (by decide) rfl (fun ls hl => ?_)
            refine lv_goto (tgt := 33) hx hb dL_law_648 (by decide) ?_
            exact ih33 x39 u33 u9 u10 u11 u12 u13 u14 u15 u36 u17 hg1 hg2 hg3 hg4 hg5 hg6 _ _ _ _ _ _ _ hm hc1 hc2 hP hD hS (lv_sub hl [1, 2, 3, 4, 0] rfl)
          · have hm := ite_f c242 hm
            by_cases c243 : x20 = (2 : Int32)
            · have hm := ite_t c243 hm
              refine lv_tableIn (tgt := 190) hx hb dL_law_49 (by rw [c243]; decide) (by rw [c243]; decide) (by rw [c243]; rfl) (by decide) ?_
              refine lv_aload_n hx hb dL_law_190 rfl (lv_at hl 1 rfl) ?_
              refine lv_aload_n hx hb dL_law_191 rfl (lv_at hl 0 rfl) ?_
              refine lv_iload hx hb dL_law_192 (lv_at hl 4 rfl) ?_
              refine lv_iconst (v := (1 : Int32)) hx hb dL_law_194 (by decide) ?_
              refine lv_iadd hx hb dL_law_195 ?_
              obtain ⟨g40, hm⟩ := gdi_of hm
              refine va_sld hx hb hX hbl hbA hS g40 dL_law_196 ?_
              refine lv_aload_n hx hb dL_law_197 rfl (lv_at hl 0 rfl) ?_
              refine lv_iload hx hb dL_law_198 (lv_at hl 4 rfl) ?_
              refine lv_iconst (v := (2 : Int32)) hx hb dL_law_200 (by decide) ?_
              refine lv_iadd hx hb dL_law_201 ?_
              obtain ⟨g41, hm⟩ := gdi_of hm
              refine va_sld hx hb hX hbl hbA hS g41 dL_law_202 ?_
              have hPc : va_P (dC, dI) vwCl ([wX cI cJ aX hg1 aL aS aW aR aO u8, wS cI cJ aS hg2 u10] : List va_W).flatten _ := hP.subF [0, 2] rfl
              have hDc : va_D A ([wX cI cJ aX hg1 aL aS aW aR aO u8, wS cI cJ aS hg2 u10] : List va_W).flatten := hD.subF [0, 2] (by decide) rfl
              have hFc := va_freeF (fc := ([wX cI cJ aX hg1 aL aS aW aR aO u8, wS cI cJ aS hg2 u10] : List va_W)) hD hS hA [0, 2] rfl
              obtain ⟨u42o, u43o, r44o, e45, hm⟩ := oC3_of hm
              refine va_calli (va_runV (As := [.int (xs ((x7 + (1 : Int32))).toNatClampNeg), .int (xs ((x7 + (2 : Int32))).toNatClampNeg)]) (rest := []) ⟨hx, hb, hml, hown, ht⟩ (c_X6_count l dC dI cI cJ aX hg1 aS hg2 aL aW aR aO H.size u8 u10 (xs ((x7 + (1 : Int32))).toNatClampNeg) (xs ((x7 + (2 : Int32))).toNatClampNeg) (u42o, u43o, r44o) e45) (cwV 2 ht (gdV kw_506 kw_504 kw_505 kw_161 kw_503) rfl rfl rfl ⟨rfl, nd_X6_count⟩ ⟨Nat.le_of_ble_eq_true rfl, Nat.le_of_ble_eq_true rfl⟩) ⟨pcW_blind, va_recv hK hPc (ci := 7) (q0 := 0) rfl rfl, pcW_pre hPc hK hDc hN⟩ rfl rfl hl.1 rfl (lv_room (Nat.le_of_ble_eq_true rfl)) dL_law_203 ⟨Nat.le_trans (cle0 hc1) hmc, Nat.le_trans (cle0 hc2) hms⟩) hS (fun q _ z => hFc q z) hFc (fun r44 uu t H1 locs ht1 hvm hw hB hz1 hk1 hS => ?_)
              obtain ⟨u42, u43⟩ := uu
              obtain ⟨hP1, hD1⟩ := hB
              rw [ht1] at hP1
              obtain ⟨q0, q1, q2⟩ := inj3 hw
              subst q0
              subst q1
              subst q2
              obtain ⟨hP, hD⟩ := va_joinF (fr := ([wL cI cJ aL jL u9, wW cI cJ aW jW aP u11, wP cI cJ aP hg3 u12, wR cI cJ aR hg4 aZ u13, wS cI cJ aZ hg5 u14, wO cI cJ aO hg6 u15, wM cI cJ aM jM u16, wY cI cJ jY u17] : List va_W)) (f1 := ([wX cI cJ aX hg1 aL aS aW aR aO u42, wS cI cJ aS hg2 u43] : List va_W)) hP hD [0, 2] [1, 3, 4, 5, 6, 7, 8, 9] rfl rfl (by decide) (by decide) hk1 hFc hP1 hD1
              have hP : va_P (dC, dI) vwCl ([wX cI cJ aX hg1 aL aS aW aR aO u42, wL cI cJ aL jL u9, wS cI cJ aS hg2 u43, wW cI cJ aW jW aP u11, wP cI cJ aP hg3 u12, wR cI cJ aR hg4 aZ u13, wS cI cJ aZ hg5 u14, wO cI cJ aO hg6 u15, wM cI cJ aM jM u16, wY cI cJ jY u17] : List va_W).flatten H1 := hP.subF [8, 0, 9, 1, 2, 3, 4, 5, 6, 7] rfl
              have hD : va_D A ([wX cI cJ aX hg1 aL aS aW aR aO u42, wL cI cJ aL jL u9, wS cI cJ aS hg2 u43, wW cI cJ aW jW aP u11, wP cI cJ aP hg3 u12, wR cI cJ aR hg4 aZ u13, wS cI cJ aZ hg5 u14, wO cI cJ aO hg6 u15, wM cI cJ aM jM u16, wY cI cJ jY u17] : List va_W).flatten := hD.subF [8, 0, 9, 1, 2, 3, 4, 5, 6, 7] (by decide) rfl
              generalize H1 = H at hP hS ⊢
              refine W.cs (Nat.add_zero _) (Nat.add_zero _) ?_
              refine lv_pop hx hb dL_law_206 rfl ?_
              refine lv_aload_n hx hb dL_law_207 rfl (lv_at hl 2 rfl) ?_
              refine lv_aload_n hx hb dL_law_208 rfl (lv_at hl 0 rfl) ?_
              refine lv_iload hx hb dL_law_209 (lv_at hl 4 rfl) ?_
              refine lv_iconst (v := (1 : Int32)) hx hb dL_law_211 (by decide) ?_
              refine lv_iadd hx hb dL_law_212 ?_
              obtain ⟨g46, hm⟩ := gdi_of hm
              refine va_sld hx hb hX hbl hbA hS g46 dL_law_213 ?_
              refine lv_aload_n hx hb dL_law_214 rfl (lv_at hl 0 rfl) ?_
              refine lv_iload hx hb dL_law_215 (lv_at hl 4 rfl) ?_
              refine lv_iconst (v := (2 : Int32)) hx hb dL_law_217 (by decide) ?_
              refine lv_iadd hx hb dL_law_218 ?_
              obtain ⟨g47, hm⟩ := gdi_of hm
              refine va_sld hx hb hX hbl hbA hS g47 dL_law_219 ?_
              have hPc : va_P (dC, dI) vwCl ([wM cI cJ aM jM u16] : List va_W).flatten _ := hP.subF [8] rfl
              have hDc : va_D A ([wM cI cJ aM jM u16] : List va_W).flatten := hD.subF [8] (by decide) rfl
              have hFc := va_freeF (fc := ([wM cI cJ aM jM u16] : List va_W)) hD hS hA [8] rfl
              obtain ⟨u48o, r49o, e50, hm⟩ := oC2_of hm
              refine va_calli (va_runV (As := [.int (xs ((x7 + (1 : Int32))).toNatClampNeg), .int (xs ((x7 + (2 : Int32))).toNatClampNeg)]) (rest := []) ⟨hx, hb, hml, hown, ht⟩ (c_X7_count l dC dI cI cJ aM jM H.size u16 (xs ((x7 + (1 : Int32))).toNatClampNeg) (xs ((x7 + (2 : Int32))).toNatClampNeg) (u48o, r49o) e50) (cwV 2 ht (gdV kw_510 kw_508 kw_509 kw_7 kw_507) rfl rfl rfl ⟨rfl, nd_X7_count⟩ ⟨Nat.le_of_ble_eq_true rfl, Nat.le_of_ble_eq_true rfl⟩) ⟨pcW_blind, va_recv hK hPc (ci := 8) (q0 := 0) rfl rfl, pcW_pre hPc hK hDc hN⟩ rfl rfl hl.1 rfl (lv_room (Nat.le_of_ble_eq_true rfl)) dL_law_220 ⟨Nat.le_trans (cle0 hc1) hmc, Nat.le_trans (cle0 hc2) hms⟩) hS (fun q _ z => hFc q z) hFc (fun r49 uu t H1 locs ht1 hvm hw hB hz1 hk1 hS => ?_)
              obtain ⟨u48, rfl⟩ : ∃ z, z = uu := ⟨_, rfl⟩
              obtain ⟨hP1, hD1⟩ := hB
              rw [ht1] at hP1
              obtain ⟨q0, q1⟩ := inj2 hw
              subst q0
              subst q1
              obtain ⟨hP, hD⟩ := va_joinF (fr := ([wX cI cJ aX hg1 aL aS aW aR aO u42, wL cI cJ aL jL u9, wS cI cJ aS hg2 u43, wW cI cJ aW jW aP u11, wP cI cJ aP hg3 u12, wR cI cJ aR hg4 aZ u13, wS cI cJ aZ hg5 u14, wO cI cJ aO hg6 u15, wY cI cJ jY u17] : List va_W)) (f1 := ([wM cI cJ aM jM u48] : List va_W)) hP hD [8] [0, 1, 2, 3, 4, 5, 6, 7, 9] rfl rfl (by decide) (by decide) hk1 hFc hP1 hD1
              have hP : va_P (dC, dI) vwCl ([wX cI cJ aX hg1 aL aS aW aR aO u42, wL cI cJ aL jL u9, wS cI cJ aS hg2 u43, wW cI cJ aW jW aP u11, wP cI cJ aP hg3 u12, wR cI cJ aR hg4 aZ u13, wS cI cJ aZ hg5 u14, wO cI cJ aO hg6 u15, wM cI cJ aM jM u48, wY cI cJ jY u17] : List va_W).flatten H1 := hP.subF [0, 1, 2, 3, 4, 5, 6, 7, 9, 8] rfl
              have hD : va_D A ([wX cI cJ aX hg1 aL aS aW aR aO u42, wL cI cJ aL jL u9, wS cI cJ aS hg2 u43, wW cI cJ aW jW aP u11, wP cI cJ aP hg3 u12, wR cI cJ aR hg4 aZ u13, wS cI cJ aZ hg5 u14, wO cI cJ aO hg6 u15, wM cI cJ aM jM u48, wY cI cJ jY u17] : List va_W).flatten := hD.subF [0, 1, 2, 3, 4, 5, 6, 7, 9, 8] (by decide) rfl
              generalize H1 = H at hP hS ⊢
              refine W.cs (Nat.add_zero _) (Nat.add_zero _) ?_
              refine lv_pop hx hb dL_law_223 rfl ?_
              refine lv_goto (tgt := 645) hx hb dL_law_224 (by decide) ?_
              obtain ⟨x51, ex51, hm⟩ := bnd_ex hm
              refine lv_iinc (v := x51) (lv' := [(4, .int x51), (0, .ref b), (1, .ref aX), (2, .ref aM), (3, .ref (jY 0))]) hx hb dL_law_645 hl (k := 4) rfl (by rw [ex51]; exact congrArg _ (by decide)) (by decide) rfl (fun ls hl => ?_)
              refine lv_goto (tgt := 33) hx hb dL_law_648 (by decide) ?_
              exact ih33 x51 u42 u9 u43 u11 u12 u13 u14 u15 u48 u17 hg1 hg2 hg3 hg4 hg5 hg6 _ _ _ _ _ _ _ hm hc1 hc2 hP hD hS (lv_sub hl [1, 2, 3, 4, 0] rfl)
            · have hm := ite_f c243 hm
              by_cases c244 : x20 = (3 : Int32)
              · have hm := ite_t c244 hm
                refine lv_tableIn (tgt := 227) hx hb dL_law_49 (by rw [c244]; decide) (by rw [c244]; decide) (by rw [c244]; rfl) (by decide) ?_
                refine lv_aload_n hx hb dL_law_227 rfl (lv_at hl 1 rfl) ?_
                have hPc : va_P (dC, dI) vwCl ([wX cI cJ aX hg1 aL aS aW aR aO u8, wS cI cJ aS hg2 u10] : List va_W).flatten _ := hP.subF [0, 2] rfl
                have hDc : va_D A ([wX cI cJ aX hg1 aL aS aW aR aO u8, wS cI cJ aS hg2 u10] : List va_W).flatten := hD.subF [0, 2] (by decide) rfl
                have hFc := va_freeF (fc := ([wX cI cJ aX hg1 aL aS aW aR aO u8, wS cI cJ aS hg2 u10] : List va_W)) hD hS hA [0, 2] rfl
                obtain ⟨u52o, u53o, r54o, e55, hm⟩ := oC3_of hm
                refine va_calli (va_runV (As := []) (rest := []) ⟨hx, hb, hml, hown, ht⟩ (c_X6_counts l dC dI cI cJ aX hg1 aS hg2 aL aW aR aO H.size u8 u10 (u52o, u53o, r54o) e55) (cwV 0 ht (gdV kw_514 kw_512 kw_513 kw_161 kw_511) rfl rfl rfl ⟨rfl, nd_X6_counts⟩ ⟨Nat.le_of_ble_eq_true rfl, Nat.le_of_ble_eq_true rfl⟩) ⟨pcW_blind, va_recv hK hPc (ci := 7) (q0 := 0) rfl rfl, pcW_pre hPc hK hDc hN⟩ rfl rfl hl.1 rfl (lv_room (Nat.le_of_ble_eq_true rfl)) dL_law_228 ⟨Nat.le_trans (cle0 hc1) hmc, Nat.le_trans (cle0 hc2) hms⟩) hS (fun q _ z => hFc q z) hFc (fun r54 uu t H1 locs ht1 hvm hw hB hz1 hk1 hS => ?_)
                obtain ⟨u52, u53⟩ := uu
                obtain ⟨hP1, hD1⟩ := hB
                rw [ht1] at hP1
                obtain ⟨q0, q1, q2⟩ := inj3 hw
                subst q0
                subst q1
                subst q2
                obtain ⟨hP, hD⟩ := va_joinF (fr := ([wL cI cJ aL jL u9, wW cI cJ aW jW aP u11, wP cI cJ aP hg3 u12, wR cI cJ aR hg4 aZ u13, wS cI cJ aZ hg5 u14, wO cI cJ aO hg6 u15, wM cI cJ aM jM u16, wY cI cJ jY u17] : List va_W)) (f1 := ([wX cI cJ aX hg1 aL aS aW aR aO u52, wS cI cJ aS hg2 u53] : List va_W)) hP hD [0, 2] [1, 3, 4, 5, 6, 7, 8, 9] rfl rfl (by decide) (by decide) hk1 hFc hP1 hD1
                have hP : va_P (dC, dI) vwCl ([wX cI cJ aX hg1 aL aS aW aR aO u52, wL cI cJ aL jL u9, wS cI cJ aS hg2 u53, wW cI cJ aW jW aP u11, wP cI cJ aP hg3 u12, wR cI cJ aR hg4 aZ u13, wS cI cJ aZ hg5 u14, wO cI cJ aO hg6 u15, wM cI cJ aM jM u16, wY cI cJ jY u17] : List va_W).flatten H1 := hP.subF [8, 0, 9, 1, 2, 3, 4, 5, 6, 7] rfl
                have hD : va_D A ([wX cI cJ aX hg1 aL aS aW aR aO u52, wL cI cJ aL jL u9, wS cI cJ aS hg2 u53, wW cI cJ aW jW aP u11, wP cI cJ aP hg3 u12, wR cI cJ aR hg4 aZ u13, wS cI cJ aZ hg5 u14, wO cI cJ aO hg6 u15, wM cI cJ aM jM u16, wY cI cJ jY u17] : List va_W).flatten := hD.subF [8, 0, 9, 1, 2, 3, 4, 5, 6, 7] (by decide) rfl
                generalize H1 = H at hP hS ⊢
                refine W.cs (Nat.add_zero _) (Nat.add_zero _) ?_
                refine lv_pop hx hb dL_law_231 rfl ?_
                refine lv_aload_n hx hb dL_law_232 rfl (lv_at hl 2 rfl) ?_
                have hPc : va_P (dC, dI) vwCl ([wM cI cJ aM jM u16] : List va_W).flatten _ := hP.subF [8] rfl
                have hDc : va_D A ([wM cI cJ aM jM u16] : List va_W).flatten := hD.subF [8] (by decide) rfl
                have hFc := va_freeF (fc := ([wM cI cJ aM jM u16] : List va_W)) hD hS hA [8] rfl
                obtain ⟨u56o, r57o, e58, hm⟩ := oC2_of hm
                refine va_calli (va_runV (As := []) (rest := []) ⟨hx, hb, hml, hown, ht⟩ (c_X7_counts l dC dI cI cJ aM jM H.size u16 (u56o, r57o) e58) (cwV 0 ht (gdV kw_518 kw_516 kw_517 kw_7 kw_515) rfl rfl rfl ⟨rfl, nd_X7_counts⟩ ⟨Nat.le_of_ble_eq_true rfl, Nat.le_of_ble_eq_true rfl⟩) ⟨pcW_blind, va_recv hK hPc (ci := 8) (q0 := 0) rfl rfl, pcW_pre hPc hK hDc hN⟩ rfl rfl hl.1 rfl (lv_room (Nat.le_of_ble_eq_true rfl)) dL_law_233 ⟨Nat.le_trans (cle0 hc1) hmc, Nat.le_trans (cle0 hc2) hms⟩) hS (fun q _ z => hFc q z) hFc (fun r57 uu t H1 locs ht1 hvm hw hB hz1 hk1 hS => ?_)
                obtain ⟨u56, rfl⟩ : ∃ z, z = uu := ⟨_, rfl⟩
                obtain ⟨hP1, hD1⟩ := hB
                rw [ht1] at hP1
                obtain ⟨q0, q1⟩ := inj2 hw
                subst q0
                subst q1
                obtain ⟨hP, hD⟩ := va_joinF (fr := ([wX cI cJ aX hg1 aL aS aW aR aO u52, wL cI cJ aL jL u9, wS cI cJ aS hg2 u53, wW cI cJ aW jW aP u11, wP cI cJ aP hg3 u12, wR cI cJ aR hg4 aZ u13, wS cI cJ aZ hg5 u14, wO cI cJ aO hg6 u15, wY cI cJ jY u17] : List va_W)) (f1 := ([wM cI cJ aM jM u56] : List va_W)) hP hD [8] [0, 1, 2, 3, 4, 5, 6, 7, 9] rfl rfl (by decide) (by decide) hk1 hFc hP1 hD1
                have hP : va_P (dC, dI) vwCl ([wX cI cJ aX hg1 aL aS aW aR aO u52, wL cI cJ aL jL u9, wS cI cJ aS hg2 u53, wW cI cJ aW jW aP u11, wP cI cJ aP hg3 u12, wR cI cJ aR hg4 aZ u13, wS cI cJ aZ hg5 u14, wO cI cJ aO hg6 u15, wM cI cJ aM jM u56, wY cI cJ jY u17] : List va_W).flatten H1 := hP.subF [0, 1, 2, 3, 4, 5, 6, 7, 9, 8] rfl
                have hD : va_D A ([wX cI cJ aX hg1 aL aS aW aR aO u52, wL cI cJ aL jL u9, wS cI cJ aS hg2 u53, wW cI cJ aW jW aP u11, wP cI cJ aP hg3 u12, wR cI cJ aR hg4 aZ u13, wS cI cJ aZ hg5 u14, wO cI cJ aO hg6 u15, wM cI cJ aM jM u56, wY cI cJ jY u17] : List va_W).flatten := hD.subF [0, 1, 2, 3, 4, 5, 6, 7, 9, 8] (by decide) rfl
                generalize H1 = H at hP hS ⊢
                refine W.cs (Nat.add_zero _) (Nat.add_zero _) ?_
                refine lv_pop hx hb dL_law_236 rfl ?_
                refine lv_goto (tgt := 645) hx hb dL_law_237 (by decide) ?_
                obtain ⟨x59, ex59, hm⟩ := bnd_ex hm
                refine lv_iinc (v := x59) (lv' := [(4, .int x59), (0, .ref b), (1, .ref aX), (2, .ref aM), (3, .ref (jY 0))]) hx hb dL_law_645 hl (k := 4) rfl (by rw [ex59]; exact congrArg _ (by decide)) (by decide) rfl (fun ls hl => ?_)
                refine lv_goto (tgt := 33) hx hb dL_law_648 (by decide) ?_
                exact ih33 x59 u52 u9 u53 u11 u12 u13 u14 u15 u56 u17 hg1 hg2 hg3 hg4 hg5 hg6 _ _ _ _ _ _ _ hm hc1 hc2 hP hD hS (lv_sub hl [1, 2, 3, 4, 0] rfl)
              · have hm := ite_f c244 hm
                by_cases c245 : x20 = (4 : Int32)
                · have hm := ite_t c245 hm
                  refine lv_tableIn (tgt := 240) hx hb dL_law_49 (by rw [c245]; decide) (by rw [c245]; decide) (by rw [c245]; rfl) (by decide) ?_
                  refine lv_aload_n hx hb dL_law_240 rfl (lv_at hl 1 rfl) ?_
                  have hPc : va_P (dC, dI) vwCl ([wX cI cJ aX hg1 aL aS aW aR aO u8, wL cI cJ aL jL u9, wS cI cJ aS hg2 u10] : List va_W).flatten _ := hP.subF [0, 1, 2] rfl
                  have hDc : va_D A ([wX cI cJ aX hg1 aL aS aW aR aO u8, wL cI cJ aL jL u9, wS cI cJ aS hg2 u10] : List va_W).flatten := hD.subF [0, 1, 2] (by decide) rfl
                  have hFc := va_freeF (fc := ([wX cI cJ aX hg1 aL aS aW aR aO u8, wL cI cJ aL jL u9, wS cI cJ aS hg2 u10] : List va_W)) hD hS hA [0, 1, 2] rfl
                  obtain ⟨u60o, u61o, r62o, e63, hm⟩ := oC3_of hm
                  refine va_calli (va_runV (As := []) (rest := []) ⟨hx, hb, hml, hown, ht⟩ (c_X6_normal l dC dI cI cJ aX hg1 aL jL aS hg2 aW aR aO H.size u8 u9 u10 (u60o, u61o, r62o) e63) (cwV 0 ht (gdV kw_522 kw_520 kw_521 kw_161 kw_519) rfl rfl rfl ⟨rfl, nd_X6_normal⟩ ⟨Nat.le_of_ble_eq_true rfl, Nat.le_of_ble_eq_true rfl⟩) ⟨pcW_blind, va_recv hK hPc (ci := 7) (q0 := 0) rfl rfl, pcW_pre hPc hK hDc hN⟩ rfl rfl hl.1 rfl (lv_room (Nat.le_of_ble_eq_true rfl)) dL_law_241 ⟨Nat.le_trans (cle0 hc1) hmc, Nat.le_trans (cle0 hc2) hms⟩) hS (fun q _ z => hFc q z) hFc (fun r62 uu t H1 locs ht1 hvm hw hB hz1 hk1 hS => ?_)
                  obtain ⟨u60, u61⟩ := uu
                  obtain ⟨hP1, hD1⟩ := hB
                  rw [ht1] at hP1
                  obtain ⟨q0, q1, q2⟩ := inj3 hw
                  subst q0
                  subst q1
                  subst q2
                  obtain ⟨hP, hD⟩ := va_joinF (fr := ([wW cI cJ aW jW aP u11, wP cI cJ aP hg3 u12, wR cI cJ aR hg4 aZ u13, wS cI cJ aZ hg5 u14, wO cI cJ aO hg6 u15, wM cI cJ aM jM u16, wY cI cJ jY u17] : List va_W)) (f1 := ([wX cI cJ aX hg1 aL aS aW aR aO u8, wL cI cJ aL jL u60, wS cI cJ aS hg2 u61] : List va_W)) hP hD [0, 1, 2] [3, 4, 5, 6, 7, 8, 9] rfl rfl (by decide) (by decide) hk1 hFc hP1 hD1
                  have hP : va_P (dC, dI) vwCl ([wX cI cJ aX hg1 aL aS aW aR aO u8, wL cI cJ aL jL u60, wS cI cJ aS hg2 u61, wW cI cJ aW jW aP u11, wP cI cJ aP hg3 u12, wR cI cJ aR hg4 aZ u13, wS cI cJ aZ hg5 u14, wO cI cJ aO hg6 u15, wM cI cJ aM jM u16, wY cI cJ jY u17] : List va_W).flatten H1 := hP.subF [7, 8, 9, 0, 1, 2, 3, 4, 5, 6] rfl
                  have hD : va_D A ([wX cI cJ aX hg1 aL aS aW aR aO u8, wL cI cJ aL jL u60, wS cI cJ aS hg2 u61, wW cI cJ aW jW aP u11, wP cI cJ aP hg3 u12, wR cI cJ aR hg4 aZ u13, wS cI cJ aZ hg5 u14, wO cI cJ aO hg6 u15, wM cI cJ aM jM u16, wY cI cJ jY u17] : List va_W).flatten := hD.subF [7, 8, 9, 0, 1, 2, 3, 4, 5, 6] (by decide) rfl
                  generalize H1 = H at hP hS ⊢
                  refine W.cs (Nat.add_zero _) (Nat.add_zero _) ?_
                  refine lv_pop hx hb dL_law_244 rfl ?_
                  refine lv_aload_n hx hb dL_law_245 rfl (lv_at hl 2 rfl) ?_
                  have hPc : va_P (dC, dI) vwCl ([wM cI cJ aM jM u16] : List va_W).flatten _ := hP.subF [8] rfl
                  have hDc : va_D A ([wM cI cJ aM jM u16] : List va_W).flatten := hD.subF [8] (by decide) rfl
                  have hFc := va_freeF (fc := ([wM cI cJ aM jM u16] : List va_W)) hD hS hA [8] rfl
                  obtain ⟨u64o, r65o, e66, hm⟩ := oC2_of hm
                  refine va_calli (va_runV (As := []) (rest := []) ⟨hx, hb, hml, hown, ht⟩ (c_X7_normal l dC dI cI cJ aM jM H.size u16 (u64o, r65o) e66) (cwV 0 ht (gdV kw_526 kw_524 kw_525 kw_7 kw_523) rfl rfl rfl ⟨rfl, nd_X7_normal⟩ ⟨Nat.le_of_ble_eq_true rfl, Nat.le_of_ble_eq_true rfl⟩) ⟨pcW_blind, va_recv hK hPc (ci := 8) (q0 := 0) rfl rfl, pcW_pre hPc hK hDc hN⟩ rfl rfl hl.1 rfl (lv_room (Nat.le_of_ble_eq_true rfl)) dL_law_246 ⟨Nat.le_trans (cle0 hc1) hmc, Nat.le_trans (cle0 hc2) hms⟩) hS (fun q _ z => hFc q z) hFc (fun r65 uu t H1 locs ht1 hvm hw hB hz1 hk1 hS => ?_)
                  obtain ⟨u64, rfl⟩ : ∃ z, z = uu := ⟨_, rfl⟩
                  obtain ⟨hP1, hD1⟩ := hB
                  rw [ht1] at hP1
                  obtain ⟨q0, q1⟩ := inj2 hw
                  subst q0
                  subst q1
                  obtain ⟨hP, hD⟩ := va_joinF (fr := ([wX cI cJ aX hg1 aL aS aW aR aO u8, wL cI cJ aL jL u60, wS cI cJ aS hg2 u61, wW cI cJ aW jW aP u11, wP cI cJ aP hg3 u12, wR cI cJ aR hg4 aZ u13, wS cI cJ aZ hg5 u14, wO cI cJ aO hg6 u15, wY cI cJ jY u17] : List va_W)) (f1 := ([wM cI cJ aM jM u64] : List va_W)) hP hD [8] [0, 1, 2, 3, 4, 5, 6, 7, 9] rfl rfl (by decide) (by decide) hk1 hFc hP1 hD1
                  have hP : va_P (dC, dI) vwCl ([wX cI cJ aX hg1 aL aS aW aR aO u8, wL cI cJ aL jL u60, wS cI cJ aS hg2 u61, wW cI cJ aW jW aP u11, wP cI cJ aP hg3 u12, wR cI cJ aR hg4 aZ u13, wS cI cJ aZ hg5 u14, wO cI cJ aO hg6 u15, wM cI cJ aM jM u64, wY cI cJ jY u17] : List va_W).flatten H1 := hP.subF [0, 1, 2, 3, 4, 5, 6, 7, 9, 8] rfl
                  have hD : va_D A ([wX cI cJ aX hg1 aL aS aW aR aO u8, wL cI cJ aL jL u60, wS cI cJ aS hg2 u61, wW cI cJ aW jW aP u11, wP cI cJ aP hg3 u12, wR cI cJ aR hg4 aZ u13, wS cI cJ aZ hg5 u14, wO cI cJ aO hg6 u15, wM cI cJ aM jM u64, wY cI cJ jY u17] : List va_W).flatten := hD.subF [0, 1, 2, 3, 4, 5, 6, 7, 9, 8] (by decide) rfl
                  generalize H1 = H at hP hS ⊢
                  refine W.cs (Nat.add_zero _) (Nat.add_zero _) ?_
                  refine lv_pop hx hb dL_law_249 rfl ?_
                  refine lv_goto (tgt := 645) hx hb dL_law_250 (by decide) ?_
                  obtain ⟨x67, ex67, hm⟩ := bnd_ex hm
                  refine lv_iinc (v := x67) (lv' := [(4, .int x67), (0, .ref b), (1, .ref aX), (2, .ref aM), (3, .ref (jY 0))]) hx hb dL_law_645 hl (k := 4) rfl (by rw [ex67]; exact congrArg _ (by decide)) (by decide) rfl (fun ls hl => ?_)
                  refine lv_goto (tgt := 33) hx hb dL_law_648 (by decide) ?_
                  exact ih33 x67 u8 u60 u61 u11 u12 u13 u14 u15 u64 u17 hg1 hg2 hg3 hg4 hg5 hg6 _ _ _ _ _ _ _ hm hc1 hc2 hP hD hS (lv_sub hl [1, 2, 3, 4, 0] rfl)
                · have hm := ite_f c245 hm
                  by_cases c246 : x20 = (5 : Int32)
                  · have hm := ite_t c246 hm
                    refine lv_tableIn (tgt := 253) hx hb dL_law_49 (by rw [c246]; decide) (by rw [c246]; decide) (by rw [c246]; rfl) (by decide) ?_
                    refine lv_aload_n hx hb dL_law_253 rfl (lv_at hl 1 rfl) ?_
                    refine lv_aload_n hx hb dL_law_254 rfl (lv_at hl 0 rfl) ?_
                    refine lv_iload hx hb dL_law_255 (lv_at hl 4 rfl) ?_
                    refine lv_iconst (v := (1 : Int32)) hx hb dL_law_257 (by decide) ?_
                    refine lv_iadd hx hb dL_law_258 ?_
                    obtain ⟨g68, hm⟩ := gdi_of hm
                    refine va_sld hx hb hX hbl hbA hS g68 dL_law_259 ?_
                    have hPc : va_P (dC, dI) vwCl ([wX cI cJ aX hg1 aL aS aW aR aO u8, wS cI cJ aS hg2 u10] : List va_W).flatten _ := hP.subF [0, 2] rfl
                    have hDc : va_D A ([wX cI cJ aX hg1 aL aS aW aR aO u8, wS cI cJ aS hg2 u10] : List va_W).flatten := hD.subF [0, 2] (by decide) rfl
                    have hFc := va_freeF (fc := ([wX cI cJ aX hg1 aL aS aW aR aO u8, wS cI cJ aS hg2 u10] : List va_W)) hD hS hA [0, 2] rfl
                    obtain ⟨r69o, e70, hm⟩ := oC1_of hm
                    refine va_calli (va_runV (As := [.int (xs ((x7 + (1 : Int32))).toNatClampNeg)]) (rest := []) ⟨hx, hb, hml, hown, ht⟩ (c_X6_share l dC dI cI cJ aX hg1 aS hg2 aL aW aR aO H.size u8 u10 (xs ((x7 + (1 : Int32))).toNatClampNeg) r69o e70) (cwV 1 ht (gdV kw_530 kw_528 kw_529 kw_161 kw_527) rfl rfl rfl ⟨rfl, nd_X6_share⟩ ⟨Nat.le_of_ble_eq_true rfl, Nat.le_of_ble_eq_true rfl⟩) ⟨pcW_blind, va_recv hK hPc (ci := 7) (q0 := 0) rfl rfl, pcW_pre hPc hK hDc hN⟩ rfl rfl hl.1 rfl (lv_room (Nat.le_of_ble_eq_true rfl)) dL_law_260 ⟨Nat.le_trans (cle0 hc1) hmc, Nat.le_trans (cle0 hc2) hms⟩) hS (fun q _ z => hFc q z) hFc (fun r69 uu t H1 locs ht1 hvm hw hB hz1 hk1 hS => ?_)
                    obtain ⟨⟩ := uu
                    obtain ⟨hP1, hD1⟩ := hB
                    rw [ht1] at hP1
                    obtain rfl : r69 = r69o := Option.some.inj hw
                    obtain ⟨hP, hD⟩ := va_joinF (fr := ([wL cI cJ aL jL u9, wW cI cJ aW jW aP u11, wP cI cJ aP hg3 u12, wR cI cJ aR hg4 aZ u13, wS cI cJ aZ hg5 u14, wO cI cJ aO hg6 u15, wM cI cJ aM jM u16, wY cI cJ jY u17] : List va_W)) (f1 := ([wX cI cJ aX hg1 aL aS aW aR aO u8, wS cI cJ aS hg2 u10] : List va_W)) hP hD [0, 2] [1, 3, 4, 5, 6, 7, 8, 9] rfl rfl (by decide) (by decide) hk1 hFc hP1 hD1
                    have hP : va_P (dC, dI) vwCl ([wX cI cJ aX hg1 aL aS aW aR aO u8, wL cI cJ aL jL u9, wS cI cJ aS hg2 u10, wW cI cJ aW jW aP u11, wP cI cJ aP hg3 u12, wR cI cJ aR hg4 aZ u13, wS cI cJ aZ hg5 u14, wO cI cJ aO hg6 u15, wM cI cJ aM jM u16, wY cI cJ jY u17] : List va_W).flatten H1 := hP.subF [8, 0, 9, 1, 2, 3, 4, 5, 6, 7] rfl
                    have hD : va_D A ([wX cI cJ aX hg1 aL aS aW aR aO u8, wL cI cJ aL jL u9, wS cI cJ aS hg2 u10, wW cI cJ aW jW aP u11, wP cI cJ aP hg3 u12, wR cI cJ aR hg4 aZ u13, wS cI cJ aZ hg5 u14, wO cI cJ aO hg6 u15, wM cI cJ aM jM u16, wY cI cJ jY u17] : List va_W).flatten := hD.subF [8, 0, 9, 1, 2, 3, 4, 5, 6, 7] (by decide) rfl
                    generalize H1 = H at hP hS ⊢
                    refine W.cs (Nat.add_zero _) (Nat.add_zero _) ?_
                    refine lv_pop hx hb dL_law_263 rfl ?_
                    refine lv_aload_n hx hb dL_law_264 rfl (lv_at hl 2 rfl) ?_
                    refine lv_aload_n hx hb dL_law_265 rfl (lv_at hl 0 rfl) ?_
                    refine lv_iload hx hb dL_law_266 (lv_at hl 4 rfl) ?_
                    refine lv_iconst (v := (1 : Int32)) hx hb dL_law_268 (by decide) ?_
                    refine lv_iadd hx hb dL_law_269 ?_
                    obtain ⟨g71, hm⟩ := gdi_of hm
                    refine va_sld hx hb hX hbl hbA hS g71 dL_law_270 ?_
                    have hPc : va_P (dC, dI) vwCl ([wM cI cJ aM jM u16] : List va_W).flatten _ := hP.subF [8] rfl
                    have hDc : va_D A ([wM cI cJ aM jM u16] : List va_W).flatten := hD.subF [8] (by decide) rfl
                    have hFc := va_freeF (fc := ([wM cI cJ aM jM u16] : List va_W)) hD hS hA [8] rfl
                    obtain ⟨u72o, r73o, e74, hm⟩ := oC2_of hm
                    refine va_calli (va_runV (As := [.int (xs ((x7 + (1 : Int32))).toNatClampNeg)]) (rest := []) ⟨hx, hb, hml, hown, ht⟩ (c_X7_share l dC dI cI cJ aM jM H.size u16 (xs ((x7 + (1 : Int32))).toNatClampNeg) (u72o, r73o) e74) (cwV 1 ht (gdV kw_534 kw_532 kw_533 kw_7 kw_531) rfl rfl rfl ⟨rfl, nd_X7_share⟩ ⟨Nat.le_of_ble_eq_true rfl, Nat.le_of_ble_eq_true rfl⟩) ⟨pcW_blind, va_recv hK hPc (ci := 8) (q0 := 0) rfl rfl, pcW_pre hPc hK hDc hN⟩ rfl rfl hl.1 rfl (lv_room (Nat.le_of_ble_eq_true rfl)) dL_law_271 ⟨Nat.le_trans (cle0 hc1) hmc, Nat.le_trans (cle0 hc2) hms⟩) hS (fun q _ z => hFc q z) hFc (fun r73 uu t H1 locs ht1 hvm hw hB hz1 hk1 hS => ?_)
                    obtain ⟨u72, rfl⟩ : ∃ z, z = uu := ⟨_, rfl⟩
                    obtain ⟨hP1, hD1⟩ := hB
                    rw [ht1] at hP1
                    obtain ⟨q0, q1⟩ := inj2 hw
                    subst q0
                    subst q1
                    obtain ⟨hP, hD⟩ := va_joinF (fr := ([wX cI cJ aX hg1 aL aS aW aR aO u8, wL cI cJ aL jL u9, wS cI cJ aS hg2 u10, wW cI cJ aW jW aP u11, wP cI cJ aP hg3 u12, wR cI cJ aR hg4 aZ u13, wS cI cJ aZ hg5 u14, wO cI cJ aO hg6 u15, wY cI cJ jY u17] : List va_W)) (f1 := ([wM cI cJ aM jM u72] : List va_W)) hP hD [8] [0, 1, 2, 3, 4, 5, 6, 7, 9] rfl rfl (by decide) (by decide) hk1 hFc hP1 hD1
                    have hP : va_P (dC, dI) vwCl ([wX cI cJ aX hg1 aL aS aW aR aO u8, wL cI cJ aL jL u9, wS cI cJ aS hg2 u10, wW cI cJ aW jW aP u11, wP cI cJ aP hg3 u12, wR cI cJ aR hg4 aZ u13, wS cI cJ aZ hg5 u14, wO cI cJ aO hg6 u15, wM cI cJ aM jM u72, wY cI cJ jY u17] : List va_W).flatten H1 := hP.subF [0, 1, 2, 3, 4, 5, 6, 7, 9, 8] rfl
                    have hD : va_D A ([wX cI cJ aX hg1 aL aS aW aR aO u8, wL cI cJ aL jL u9, wS cI cJ aS hg2 u10, wW cI cJ aW jW aP u11, wP cI cJ aP hg3 u12, wR cI cJ aR hg4 aZ u13, wS cI cJ aZ hg5 u14, wO cI cJ aO hg6 u15, wM cI cJ aM jM u72, wY cI cJ jY u17] : List va_W).flatten := hD.subF [0, 1, 2, 3, 4, 5, 6, 7, 9, 8] (by decide) rfl
                    generalize H1 = H at hP hS ⊢
                    refine W.cs (Nat.add_zero _) (Nat.add_zero _) ?_
                    refine lv_pop hx hb dL_law_274 rfl ?_
                    refine lv_goto (tgt := 645) hx hb dL_law_275 (by decide) ?_
                    obtain ⟨x75, ex75, hm⟩ := bnd_ex hm
                    refine lv_iinc (v := x75) (lv' := [(4, .int x75), (0, .ref b), (1, .ref aX), (2, .ref aM), (3, .ref (jY 0))]) hx hb dL_law_645 hl (k := 4) rfl (by rw [ex75]; exact congrArg _ (by decide)) (by decide) rfl (fun ls hl => ?_)
                    refine lv_goto (tgt := 33) hx hb dL_law_648 (by decide) ?_
                    exact ih33 x75 u8 u9 u10 u11 u12 u13 u14 u15 u72 u17 hg1 hg2 hg3 hg4 hg5 hg6 _ _ _ _ _ _ _ hm hc1 hc2 hP hD hS (lv_sub hl [1, 2, 3, 4, 0] rfl)
                  · have hm := ite_f c246 hm
                    by_cases c247 : x20 = (6 : Int32)
                    · have hm := ite_t c247 hm
                      refine lv_tableIn (tgt := 278) hx hb dL_law_49 (by rw [c247]; decide) (by rw [c247]; decide) (by rw [c247]; rfl) (by decide) ?_
                      refine lv_aload_n hx hb dL_law_278 rfl (lv_at hl 1 rfl) ?_
                      have hPc : va_P (dC, dI) vwCl ([wX cI cJ aX hg1 aL aS aW aR aO u8, wL cI cJ aL jL u9, wS cI cJ aS hg2 u10] : List va_W).flatten _ := hP.subF [0, 1, 2] rfl
                      have hDc : va_D A ([wX cI cJ aX hg1 aL aS aW aR aO u8, wL cI cJ aL jL u9, wS cI cJ aS hg2 u10] : List va_W).flatten := hD.subF [0, 1, 2] (by decide) rfl
                      have hFc := va_freeF (fc := ([wX cI cJ aX hg1 aL aS aW aR aO u8, wL cI cJ aL jL u9, wS cI cJ aS hg2 u10] : List va_W)) hD hS hA [0, 1, 2] rfl
                      obtain ⟨u76o, r77o, e78, hm⟩ := oC2_of hm
                      refine va_calll (va_runV (As := []) (rest := []) ⟨hx, hb, hml, hown, ht⟩ (c_X6_loss l dC dI cI cJ aX hg1 aL jL aS hg2 aW aR aO H.size u8 u9 u10 (u76o, r77o) e78) (cwV 0 ht (gdV kw_538 kw_536 kw_537 kw_161 kw_535) rfl rfl rfl ⟨rfl, nd_X6_loss⟩ ⟨Nat.le_of_ble_eq_true rfl, Nat.le_of_ble_eq_true rfl⟩) ⟨pcW_blind, va_recv hK hPc (ci := 7) (q0 := 0) rfl rfl, pcW_pre hPc hK hDc hN⟩ rfl rfl hl.1 rfl (lv_room (Nat.le_of_ble_eq_true rfl)) dL_law_279 ⟨Nat.le_trans (cle0 hc1) hmc, Nat.le_trans (cle0 hc2) hms⟩) hS (fun q _ z => hFc q z) hFc (fun r77 uu t H1 locs ht1 hvm hw hB hz1 hk1 hS => ?_)
                      obtain ⟨u76, rfl⟩ : ∃ z, z = uu := ⟨_, rfl⟩
                      obtain ⟨hP1, hD1⟩ := hB
                      rw [ht1] at hP1
                      obtain ⟨q0, q1⟩ := inj2 hw
                      subst q0
                      subst q1
                      obtain ⟨hP, hD⟩ := va_joinF (fr := ([wW cI cJ aW jW aP u11, wP cI cJ aP hg3 u12, wR cI cJ aR hg4 aZ u13, wS cI cJ aZ hg5 u14, wO cI cJ aO hg6 u15, wM cI cJ aM jM u16, wY cI cJ jY u17] : List va_W)) (f1 := ([wX cI cJ aX hg1 aL aS aW aR aO u8, wL cI cJ aL jL u76, wS cI cJ aS hg2 u10] : List va_W)) hP hD [0, 1, 2] [3, 4, 5, 6, 7, 8, 9] rfl rfl (by decide) (by decide) hk1 hFc hP1 hD1
                      have hP : va_P (dC, dI) vwCl ([wX cI cJ aX hg1 aL aS aW aR aO u8, wL cI cJ aL jL u76, wS cI cJ aS hg2 u10, wW cI cJ aW jW aP u11, wP cI cJ aP hg3 u12, wR cI cJ aR hg4 aZ u13, wS cI cJ aZ hg5 u14, wO cI cJ aO hg6 u15, wM cI cJ aM jM u16, wY cI cJ jY u17] : List va_W).flatten H1 := hP.subF [7, 8, 9, 0, 1, 2, 3, 4, 5, 6] rfl
                      have hD : va_D A ([wX cI cJ aX hg1 aL aS aW aR aO u8, wL cI cJ aL jL u76, wS cI cJ aS hg2 u10, wW cI cJ aW jW aP u11, wP cI cJ aP hg3 u12, wR cI cJ aR hg4 aZ u13, wS cI cJ aZ hg5 u14, wO cI cJ aO hg6 u15, wM cI cJ aM jM u16, wY cI cJ jY u17] : List va_W).flatten := hD.subF [7, 8, 9, 0, 1, 2, 3, 4, 5, 6] (by decide) rfl
                      generalize H1 = H at hP hS ⊢
                      refine W.cs (Nat.add_zero _) (Nat.add_zero _) ?_
                      refine lv_pop2_2 hx hb dL_law_282 rfl ?_
                      refine lv_aload_n hx hb dL_law_283 rfl (lv_at hl 2 rfl) ?_
                      have hPc : va_P (dC, dI) vwCl ([wM cI cJ aM jM u16] : List va_W).flatten _ := hP.subF [8] rfl
                      have hDc : va_D A ([wM cI cJ aM jM u16] : List va_W).flatten := hD.subF [8] (by decide) rfl
                      have hFc := va_freeF (fc := ([wM cI cJ aM jM u16] : List va_W)) hD hS hA [8] rfl
                      obtain ⟨u79o, r80o, e81, hm⟩ := oC2_of hm
                      refine va_calll (va_runV (As := []) (rest := []) ⟨hx, hb, hml, hown, ht⟩ (c_X7_loss l dC dI cI cJ aM jM H.size u16 (u79o, r80o) e81) (cwV 0 ht (gdV kw_542 kw_540 kw_541 kw_7 kw_539) rfl rfl rfl ⟨rfl, nd_X7_loss⟩ ⟨Nat.le_of_ble_eq_true rfl, Nat.le_of_ble_eq_true rfl⟩) ⟨pcW_blind, va_recv hK hPc (ci := 8) (q0 := 0) rfl rfl, pcW_pre hPc hK hDc hN⟩ rfl rfl hl.1 rfl (lv_room (Nat.le_of_ble_eq_true rfl)) dL_law_284 ⟨Nat.le_trans (cle0 hc1) hmc, Nat.le_trans (cle0 hc2) hms⟩) hS (fun q _ z => hFc q z) hFc (fun r80 uu t H1 locs ht1 hvm hw hB hz1 hk1 hS => ?_)
                      obtain ⟨u79, rfl⟩ : ∃ z, z = uu := ⟨_, rfl⟩
                      obtain ⟨hP1, hD1⟩ := hB
                      rw [ht1] at hP1
                      obtain ⟨q0, q1⟩ := inj2 hw
                      subst q0
                      subst q1
                      obtain ⟨hP, hD⟩ := va_joinF (fr := ([wX cI cJ aX hg1 aL aS aW aR aO u8, wL cI cJ aL jL u76, wS cI cJ aS hg2 u10, wW cI cJ aW jW aP u11, wP cI cJ aP hg3 u12, wR cI cJ aR hg4 aZ u13, wS cI cJ aZ hg5 u14, wO cI cJ aO hg6 u15, wY cI cJ jY u17] : List va_W)) (f1 := ([wM cI cJ aM jM u79] : List va_W)) hP hD [8] [0, 1, 2, 3, 4, 5, 6, 7, 9] rfl rfl (by decide) (by decide) hk1 hFc hP1 hD1
                      have hP : va_P (dC, dI) vwCl ([wX cI cJ aX hg1 aL aS aW aR aO u8, wL cI cJ aL jL u76, wS cI cJ aS hg2 u10, wW cI cJ aW jW aP u11, wP cI cJ aP hg3 u12, wR cI cJ aR hg4 aZ u13, wS cI cJ aZ hg5 u14, wO cI cJ aO hg6 u15, wM cI cJ aM jM u79, wY cI cJ jY u17] : List va_W).flatten H1 := hP.subF [0, 1, 2, 3, 4, 5, 6, 7, 9, 8] rfl
                      have hD : va_D A ([wX cI cJ aX hg1 aL aS aW aR aO u8, wL cI cJ aL jL u76, wS cI cJ aS hg2 u10, wW cI cJ aW jW aP u11, wP cI cJ aP hg3 u12, wR cI cJ aR hg4 aZ u13, wS cI cJ aZ hg5 u14, wO cI cJ aO hg6 u15, wM cI cJ aM jM u79, wY cI cJ jY u17] : List va_W).flatten := hD.subF [0, 1, 2, 3, 4, 5, 6, 7, 9, 8] (by decide) rfl
                      generalize H1 = H at hP hS ⊢
                      refine W.cs (Nat.add_zero _) (Nat.add_zero _) ?_
                      refine lv_pop2_2 hx hb dL_law_287 rfl ?_
                      refine lv_goto (tgt := 645) hx hb dL_law_288 (by decide) ?_
                      obtain ⟨x82, ex82, hm⟩ := bnd_ex hm
                      refine lv_iinc (v := x82) (lv' := [(4, .int x82), (0, .ref b), (1, .ref aX), (2, .ref aM), (3, .ref (jY 0))]) hx hb dL_law_645 hl (k := 4) rfl (by rw [ex82]; exact congrArg _ (by decide)) (by decide) rfl (fun ls hl => ?_)
                      refine lv_goto (tgt := 33) hx hb dL_law_648 (by decide) ?_
                      exact ih33 x82 u8 u76 u10 u11 u12 u13 u14 u15 u79 u17 hg1 hg2 hg3 hg4 hg5 hg6 _ _ _ _ _ _ _ hm hc1 hc2 hP hD hS (lv_sub hl [1, 2, 3, 4, 0] rfl)
                    · have hm := ite_f c247 hm
                      by_cases c248 : x20 = (7 : Int32)
                      · have hm := ite_t c248 hm
                        refine lv_tableIn (tgt := 291) hx hb dL_law_49 (by rw [c248]; decide) (by rw [c248]; decide) (by rw [c248]; rfl) (by decide) ?_
                        refine lv_aload_n hx hb dL_law_291 rfl (lv_at hl 1 rfl) ?_
                        refine lv_aload_n hx hb dL_law_292 rfl (lv_at hl 0 rfl) ?_
                        refine lv_iload hx hb dL_law_293 (lv_at hl 4 rfl) ?_
                        refine lv_iconst (v := (1 : Int32)) hx hb dL_law_295 (by decide) ?_
                        refine lv_iadd hx hb dL_law_296 ?_
                        obtain ⟨g83, hm⟩ := gdi_of hm
                        refine va_sld hx hb hX hbl hbA hS g83 dL_law_297 ?_
                        have hPc : va_P (dC, dI) vwCl ([wX cI cJ aX hg1 aL aS aW aR aO u8, wL cI cJ aL jL u9] : List va_W).flatten _ := hP.subF [0, 1] rfl
                        have hDc : va_D A ([wX cI cJ aX hg1 aL aS aW aR aO u8, wL cI cJ aL jL u9] : List va_W).flatten := hD.subF [0, 1] (by decide) rfl
                        have hFc := va_freeF (fc := ([wX cI cJ aX hg1 aL aS aW aR aO u8, wL cI cJ aL jL u9] : List va_W)) hD hS hA [0, 1] rfl
                        obtain ⟨u84o, r85o, e86, hm⟩ := oC2_of hm
                        refine va_calll (va_runV (As := [.int (xs ((x7 + (1 : Int32))).toNatClampNeg)]) (rest := []) ⟨hx, hb, hml, hown, ht⟩ (c_X6_lg l dC dI cI cJ aX hg1 aL jL aS aW aR aO H.size u8 u9 (xs ((x7 + (1 : Int32))).toNatClampNeg) (u84o, r85o) e86) (cwV 1 ht (gdV kw_546 kw_544 kw_545 kw_161 kw_543) rfl rfl rfl ⟨rfl, nd_X6_lg⟩ ⟨Nat.le_of_ble_eq_true rfl, Nat.le_of_ble_eq_true rfl⟩) ⟨pcW_blind, va_recv hK hPc (ci := 7) (q0 := 0) rfl rfl, pcW_pre hPc hK hDc hN⟩ rfl rfl hl.1 rfl (lv_room (Nat.le_of_ble_eq_true rfl)) dL_law_298 ⟨Nat.le_trans (cle0 hc1) hmc, Nat.le_trans (cle0 hc2) hms⟩) hS (fun q _ z => hFc q z) hFc (fun r85 uu t H1 locs ht1 hvm hw hB hz1 hk1 hS => ?_)
                        obtain ⟨u84, rfl⟩ : ∃ z, z = uu := ⟨_, rfl⟩
                        obtain ⟨hP1, hD1⟩ := hB
                        rw [ht1] at hP1
                        obtain ⟨q0, q1⟩ := inj2 hw
                        subst q0
                        subst q1
                        obtain ⟨hP, hD⟩ := va_joinF (fr := ([wS cI cJ aS hg2 u10, wW cI cJ aW jW aP u11, wP cI cJ aP hg3 u12, wR cI cJ aR hg4 aZ u13, wS cI cJ aZ hg5 u14, wO cI cJ aO hg6 u15, wM cI cJ aM jM u16, wY cI cJ jY u17] : List va_W)) (f1 := ([wX cI cJ aX hg1 aL aS aW aR aO u8, wL cI cJ aL jL u84] : List va_W)) hP hD [0, 1] [2, 3, 4, 5, 6, 7, 8, 9] rfl rfl (by decide) (by decide) hk1 hFc hP1 hD1
                        have hP : va_P (dC, dI) vwCl ([wX cI cJ aX hg1 aL aS aW aR aO u8, wL cI cJ aL jL u84, wS cI cJ aS hg2 u10, wW cI cJ aW jW aP u11, wP cI cJ aP hg3 u12, wR cI cJ aR hg4 aZ u13, wS cI cJ aZ hg5 u14, wO cI cJ aO hg6 u15, wM cI cJ aM jM u16, wY cI cJ jY u17] : List va_W).flatten H1 := hP.subF [8, 9, 0, 1, 2, 3, 4, 5, 6, 7] rfl
                        have hD : va_D A ([wX cI cJ aX hg1 aL aS aW aR aO u8, wL cI cJ aL jL u84, wS cI cJ aS hg2 u10, wW cI cJ aW jW aP u11, wP cI cJ aP hg3 u12, wR cI cJ aR hg4 aZ u13, wS cI cJ aZ hg5 u14, wO cI cJ aO hg6 u15, wM cI cJ aM jM u16, wY cI cJ jY u17] : List va_W).flatten := hD.subF [8, 9, 0, 1, 2, 3, 4, 5, 6, 7] (by decide) rfl
                        generalize H1 = H at hP hS ⊢
                        refine W.cs (Nat.add_zero _) (Nat.add_zero _) ?_
                        refine lv_pop2_2 hx hb dL_law_301 rfl ?_
                        refine lv_aload_n hx hb dL_law_302 rfl (lv_at hl 2 rfl) ?_
                        refine lv_aload_n hx hb dL_law_303 rfl (lv_at hl 0 rfl) ?_
                        refine lv_iload hx hb dL_law_304 (lv_at hl 4 rfl) ?_
                        refine lv_iconst (v := (1 : Int32)) hx hb dL_law_306 (by decide) ?_
                        refine lv_iadd hx hb dL_law_307 ?_
                        obtain ⟨g87, hm⟩ := gdi_of hm
                        refine va_sld hx hb hX hbl hbA hS g87 dL_law_308 ?_
                        have hPc : va_P (dC, dI) vwCl ([wM cI cJ aM jM u16] : List va_W).flatten _ := hP.subF [8] rfl
                        have hDc : va_D A ([wM cI cJ aM jM u16] : List va_W).flatten := hD.subF [8] (by decide) rfl
                        have hFc := va_freeF (fc := ([wM cI cJ aM jM u16] : List va_W)) hD hS hA [8] rfl
                        obtain ⟨u88o, r89o, e90, hm⟩ := oC2_of hm
                        refine va_calll (va_runV (As := [.int (xs ((x7 + (1 : Int32))).toNatClampNeg)]) (rest := []) ⟨hx, hb, hml, hown, ht⟩ (c_X7_lg l dC dI cI cJ aM jM H.size u16 (xs ((x7 + (1 : Int32))).toNatClampNeg) (u88o, r89o) e90) (cwV 1 ht (gdV kw_550 kw_548 kw_549 kw_7 kw_547) rfl rfl rfl ⟨rfl, nd_X7_lg⟩ ⟨Nat.le_of_ble_eq_true rfl, Nat.le_of_ble_eq_true rfl⟩) ⟨pcW_blind, va_recv hK hPc (ci := 8) (q0 := 0) rfl rfl, pcW_pre hPc hK hDc hN⟩ rfl rfl hl.1 rfl (lv_room (Nat.le_of_ble_eq_true rfl)) dL_law_309 ⟨Nat.le_trans (cle0 hc1) hmc, Nat.le_trans (cle0 hc2) hms⟩) hS (fun q _ z => hFc q z) hFc (fun r89 uu t H1 locs ht1 hvm hw hB hz1 hk1 hS => ?_)
                        obtain ⟨u88, rfl⟩ : ∃ z, z = uu := ⟨_, rfl⟩
                        obtain ⟨hP1, hD1⟩ := hB
                        rw [ht1] at hP1
                        obtain ⟨q0, q1⟩ := inj2 hw
                        subst q0
                        subst q1
                        obtain ⟨hP, hD⟩ := va_joinF (fr := ([wX cI cJ aX hg1 aL aS aW aR aO u8, wL cI cJ aL jL u84, wS cI cJ aS hg2 u10, wW cI cJ aW jW aP u11, wP cI cJ aP hg3 u12, wR cI cJ aR hg4 aZ u13, wS cI cJ aZ hg5 u14, wO cI cJ aO hg6 u15, wY cI cJ jY u17] : List va_W)) (f1 := ([wM cI cJ aM jM u88] : List va_W)) hP hD [8] [0, 1, 2, 3, 4, 5, 6, 7, 9] rfl rfl (by decide) (by decide) hk1 hFc hP1 hD1
                        have hP : va_P (dC, dI) vwCl ([wX cI cJ aX hg1 aL aS aW aR aO u8, wL cI cJ aL jL u84, wS cI cJ aS hg2 u10, wW cI cJ aW jW aP u11, wP cI cJ aP hg3 u12, wR cI cJ aR hg4 aZ u13, wS cI cJ aZ hg5 u14, wO cI cJ aO hg6 u15, wM cI cJ aM jM u88, wY cI cJ jY u17] : List va_W).flatten H1 := hP.subF [0, 1, 2, 3, 4, 5, 6, 7, 9, 8] rfl
                        have hD : va_D A ([wX cI cJ aX hg1 aL aS aW aR aO u8, wL cI cJ aL jL u84, wS cI cJ aS hg2 u10, wW cI cJ aW jW aP u11, wP cI cJ aP hg3 u12, wR cI cJ aR hg4 aZ u13, wS cI cJ aZ hg5 u14, wO cI cJ aO hg6 u15, wM cI cJ aM jM u88, wY cI cJ jY u17] : List va_W).flatten := hD.subF [0, 1, 2, 3, 4, 5, 6, 7, 9, 8] (by decide) rfl
                        generalize H1 = H at hP hS ⊢
                        refine W.cs (Nat.add_zero _) (Nat.add_zero _) ?_
                        refine lv_pop2_2 hx hb dL_law_312 rfl ?_
                        refine lv_goto (tgt := 645) hx hb dL_law_313 (by decide) ?_
                        obtain ⟨x91, ex91, hm⟩ := bnd_ex hm
                        refine lv_iinc (v := x91) (lv' := [(4, .int x91), (0, .ref b), (1, .ref aX), (2, .ref aM), (3, .ref (jY 0))]) hx hb dL_law_645 hl (k := 4) rfl (by rw [ex91]; exact congrArg _ (by decide)) (by decide) rfl (fun ls hl => ?_)
                        refine lv_goto (tgt := 33) hx hb dL_law_648 (by decide) ?_
                        exact ih33 x91 u8 u84 u10 u11 u12 u13 u14 u15 u88 u17 hg1 hg2 hg3 hg4 hg5 hg6 _ _ _ _ _ _ _ hm hc1 hc2 hP hD hS (lv_sub hl [1, 2, 3, 4, 0] rfl)
                      · have hm := ite_f c248 hm
                        by_cases c249 : x20 = (8 : Int32)
                        · have hm := ite_t c249 hm
                          refine lv_tableIn (tgt := 316) hx hb dL_law_49 (by rw [c249]; decide) (by rw [c249]; decide) (by rw [c249]; rfl) (by decide) ?_
                          refine lv_aload_n hx hb dL_law_316 rfl (lv_at hl 1 rfl) ?_
                          refine lv_aload_n hx hb dL_law_317 rfl (lv_at hl 0 rfl) ?_
                          refine lv_iload hx hb dL_law_318 (lv_at hl 4 rfl) ?_
                          refine lv_iconst (v := (1 : Int32)) hx hb dL_law_320 (by decide) ?_
                          refine lv_iadd hx hb dL_law_321 ?_
                          obtain ⟨g92, hm⟩ := gdi_of hm
                          refine va_sld hx hb hX hbl hbA hS g92 dL_law_322 ?_
                          have hPc : va_P (dC, dI) vwCl ([wX cI cJ aX hg1 aL aS aW aR aO u8] : List va_W).flatten _ := hP.subF [0] rfl
                          have hDc : va_D A ([wX cI cJ aX hg1 aL aS aW aR aO u8] : List va_W).flatten := hD.subF [0] (by decide) rfl
                          have hFc := va_freeF (fc := ([wX cI cJ aX hg1 aL aS aW aR aO u8] : List va_W)) hD hS hA [0] rfl
                          obtain ⟨u93o, r94o, e95, hm⟩ := oC2_of hm
                          refine va_calli (va_runV (As := [.int (xs ((x7 + (1 : Int32))).toNatClampNeg)]) (rest := []) ⟨hx, hb, hml, hown, ht⟩ (c_X6_form l dC dI cI cJ aX hg1 aL aS aW aR aO H.size u8 (xs ((x7 + (1 : Int32))).toNatClampNeg) (u93o, r94o) e95) (cwV 1 ht (gdV kw_554 kw_552 kw_553 kw_161 kw_551) rfl rfl rfl ⟨rfl, nd_X6_form⟩ ⟨Nat.le_of_ble_eq_true rfl, Nat.le_of_ble_eq_true rfl⟩) ⟨pcW_blind, va_recv hK hPc (ci := 7) (q0 := 0) rfl rfl, pcW_pre hPc hK hDc hN⟩ rfl rfl hl.1 rfl (lv_room (Nat.le_of_ble_eq_true rfl)) dL_law_323 ⟨Nat.le_trans (cle0 hc1) hmc, Nat.le_trans (cle0 hc2) hms⟩) hS (fun q _ z => hFc q z) hFc (fun r94 uu t H1 locs ht1 hvm hw hB hz1 hk1 hS => ?_)
                          obtain ⟨u93, rfl⟩ : ∃ z, z = uu := ⟨_, rfl⟩
                          obtain ⟨hP1, hD1⟩ := hB
                          rw [ht1] at hP1
                          obtain ⟨q0, q1⟩ := inj2 hw
                          subst q0
                          subst q1
                          obtain ⟨hP, hD⟩ := va_joinF (fr := ([wL cI cJ aL jL u9, wS cI cJ aS hg2 u10, wW cI cJ aW jW aP u11, wP cI cJ aP hg3 u12, wR cI cJ aR hg4 aZ u13, wS cI cJ aZ hg5 u14, wO cI cJ aO hg6 u15, wM cI cJ aM jM u16, wY cI cJ jY u17] : List va_W)) (f1 := ([wX cI cJ aX hg1 aL aS aW aR aO u93] : List va_W)) hP hD [0] [1, 2, 3, 4, 5, 6, 7, 8, 9] rfl rfl (by decide) (by decide) hk1 hFc hP1 hD1
                          have hP : va_P (dC, dI) vwCl ([wX cI cJ aX hg1 aL aS aW aR aO u93, wL cI cJ aL jL u9, wS cI cJ aS hg2 u10, wW cI cJ aW jW aP u11, wP cI cJ aP hg3 u12, wR cI cJ aR hg4 aZ u13, wS cI cJ aZ hg5 u14, wO cI cJ aO hg6 u15, wM cI cJ aM jM u16, wY cI cJ jY u17] : List va_W).flatten H1 := hP.subF [9, 0, 1, 2, 3, 4, 5, 6, 7, 8] rfl
                          have hD : va_D A ([wX cI cJ aX hg1 aL aS aW aR aO u93, wL cI cJ aL jL u9, wS cI cJ aS hg2 u10, wW cI cJ aW jW aP u11, wP cI cJ aP hg3 u12, wR cI cJ aR hg4 aZ u13, wS cI cJ aZ hg5 u14, wO cI cJ aO hg6 u15, wM cI cJ aM jM u16, wY cI cJ jY u17] : List va_W).flatten := hD.subF [9, 0, 1, 2, 3, 4, 5, 6, 7, 8] (by decide) rfl
                          generalize H1 = H at hP hS ⊢
                          refine W.cs (Nat.add_zero _) (Nat.add_zero _) ?_
                          refine lv_pop hx hb dL_law_326 rfl ?_
                          refine lv_aload_n hx hb dL_law_327 rfl (lv_at hl 2 rfl) ?_
                          refine lv_aload_n hx hb dL_law_328 rfl (lv_at hl 0 rfl) ?_
                          refine lv_iload hx hb dL_law_329 (lv_at hl 4 rfl) ?_
                          refine lv_iconst (v := (1 : Int32)) hx hb dL_law_331 (by decide) ?_
                          refine lv_iadd hx hb dL_law_332 ?_
                          obtain ⟨g96, hm⟩ := gdi_of hm
                          refine va_sld hx hb hX hbl hbA hS g96 dL_law_333 ?_
                          have hPc : va_P (dC, dI) vwCl ([wM cI cJ aM jM u16] : List va_W).flatten _ := hP.subF [8] rfl
                          have hDc : va_D A ([wM cI cJ aM jM u16] : List va_W).flatten := hD.subF [8] (by decide) rfl
                          have hFc := va_freeF (fc := ([wM cI cJ aM jM u16] : List va_W)) hD hS hA [8] rfl
                          obtain ⟨u97o, r98o, e99, hm⟩ := oC2_of hm
                          refine va_calli (va_runV (As := [.int (xs ((x7 + (1 : Int32))).toNatClampNeg)]) (rest := []) ⟨hx, hb, hml, hown, ht⟩ (c_X7_form l dC dI cI cJ aM jM H.size u16 (xs ((x7 + (1 : Int32))).toNatClampNeg) (u97o, r98o) e99) (cwV 1 ht (gdV kw_558 kw_556 kw_557 kw_7 kw_555) rfl rfl rfl ⟨rfl, nd_X7_form⟩ ⟨Nat.le_of_ble_eq_true rfl, Nat.le_of_ble_eq_true rfl⟩) ⟨pcW_blind, va_recv hK hPc (ci := 8) (q0 := 0) rfl rfl, pcW_pre hPc hK hDc hN⟩ rfl rfl hl.1 rfl (lv_room (Nat.le_of_ble_eq_true rfl)) dL_law_334 ⟨Nat.le_trans (cle0 hc1) hmc, Nat.le_trans (cle0 hc2) hms⟩) hS (fun q _ z => hFc q z) hFc (fun r98 uu t H1 locs ht1 hvm hw hB hz1 hk1 hS => ?_)
                          obtain ⟨u97, rfl⟩ : ∃ z, z = uu := ⟨_, rfl⟩
                          obtain ⟨hP1, hD1⟩ := hB
                          rw [ht1] at hP1
                          obtain ⟨q0, q1⟩ := inj2 hw
                          subst q0
                          subst q1
                          obtain ⟨hP, hD⟩ := va_joinF (fr := ([wX cI cJ aX hg1 aL aS aW aR aO u93, wL cI cJ aL jL u9, wS cI cJ aS hg2 u10, wW cI cJ aW jW aP u11, wP cI cJ aP hg3 u12, wR cI cJ aR hg4 aZ u13, wS cI cJ aZ hg5 u14, wO cI cJ aO hg6 u15, wY cI cJ jY u17] : List va_W)) (f1 := ([wM cI cJ aM jM u97] : List va_W)) hP hD [8] [0, 1, 2, 3, 4, 5, 6, 7, 9] rfl rfl (by decide) (by decide) hk1 hFc hP1 hD1
                          have hP : va_P (dC, dI) vwCl ([wX cI cJ aX hg1 aL aS aW aR aO u93, wL cI cJ aL jL u9, wS cI cJ aS hg2 u10, wW cI cJ aW jW aP u11, wP cI cJ aP hg3 u12, wR cI cJ aR hg4 aZ u13, wS cI cJ aZ hg5 u14, wO cI cJ aO hg6 u15, wM cI cJ aM jM u97, wY cI cJ jY u17] : List va_W).flatten H1 := hP.subF [0, 1, 2, 3, 4, 5, 6, 7, 9, 8] rfl
                          have hD : va_D A ([wX cI cJ aX hg1 aL aS aW aR aO u93, wL cI cJ aL jL u9, wS cI cJ aS hg2 u10, wW cI cJ aW jW aP u11, wP cI cJ aP hg3 u12, wR cI cJ aR hg4 aZ u13, wS cI cJ aZ hg5 u14, wO cI cJ aO hg6 u15, wM cI cJ aM jM u97, wY cI cJ jY u17] : List va_W).flatten := hD.subF [0, 1, 2, 3, 4, 5, 6, 7, 9, 8] (by decide) rfl
                          generalize H1 = H at hP hS ⊢
                          refine W.cs (Nat.add_zero _) (Nat.add_zero _) ?_
                          refine lv_pop hx hb dL_law_337 rfl ?_
                          refine lv_goto (tgt := 645) hx hb dL_law_338 (by decide) ?_
                          obtain ⟨x100, ex100, hm⟩ := bnd_ex hm
                          refine lv_iinc (v := x100) (lv' := [(4, .int x100), (0, .ref b), (1, .ref aX), (2, .ref aM), (3, .ref (jY 0))]) hx hb dL_law_645 hl (k := 4) rfl (by rw [ex100]; exact congrArg _ (by decide)) (by decide) rfl (fun ls hl => ?_)
                          refine lv_goto (tgt := 33) hx hb dL_law_648 (by decide) ?_
                          exact ih33 x100 u93 u9 u10 u11 u12 u13 u14 u15 u97 u17 hg1 hg2 hg3 hg4 hg5 hg6 _ _ _ _ _ _ _ hm hc1 hc2 hP hD hS (lv_sub hl [1, 2, 3, 4, 0] rfl)
                        · have hm := ite_f c249 hm
                          by_cases c250 : x20 = (9 : Int32)
                          · have hm := ite_t c250 hm
                            refine lv_tableIn (tgt := 341) hx hb dL_law_49 (by rw [c250]; decide) (by rw [c250]; decide) (by rw [c250]; rfl) (by decide) ?_
                            refine lv_aload_n hx hb dL_law_341 rfl (lv_at hl 1 rfl) ?_
                            refine lv_aload_n hx hb dL_law_342 rfl (lv_at hl 0 rfl) ?_
                            refine lv_iload hx hb dL_law_343 (lv_at hl 4 rfl) ?_
                            refine lv_iconst (v := (1 : Int32)) hx hb dL_law_345 (by decide) ?_
                            refine lv_iadd hx hb dL_law_346 ?_
                            obtain ⟨g101, hm⟩ := gdi_of hm
                            refine va_sld hx hb hX hbl hbA hS g101 dL_law_347 ?_
                            have hPc : va_P (dC, dI) vwCl ([wX cI cJ aX hg1 aL aS aW aR aO u8] : List va_W).flatten _ := hP.subF [0] rfl
                            have hDc : va_D A ([wX cI cJ aX hg1 aL aS aW aR aO u8] : List va_W).flatten := hD.subF [0] (by decide) rfl
                            have hFc := va_freeF (fc := ([wX cI cJ aX hg1 aL aS aW aR aO u8] : List va_W)) hD hS hA [0] rfl
                            obtain ⟨u102o, r103o, e104, hm⟩ := oC2_of hm
                            refine va_calli (va_runV (As := [.int (xs ((x7 + (1 : Int32))).toNatClampNeg)]) (rest := []) ⟨hx, hb, hml, hown, ht⟩ (c_X6_lanes l dC dI cI cJ aX hg1 aL aS aW aR aO H.size u8 (xs ((x7 + (1 : Int32))).toNatClampNeg) (u102o, r103o) e104) (cwV 1 ht (gdV kw_562 kw_560 kw_561 kw_161 kw_559) rfl rfl rfl ⟨rfl, nd_X6_lanes⟩ ⟨Nat.le_of_ble_eq_true rfl, Nat.le_of_ble_eq_true rfl⟩) ⟨pcW_blind, va_recv hK hPc (ci := 7) (q0 := 0) rfl rfl, pcW_pre hPc hK hDc hN⟩ rfl rfl hl.1 rfl (lv_room (Nat.le_of_ble_eq_true rfl)) dL_law_348 ⟨Nat.le_trans (cle0 hc1) hmc, Nat.le_trans (cle0 hc2) hms⟩) hS (fun q _ z => hFc q z) hFc (fun r103 uu t H1 locs ht1 hvm hw hB hz1 hk1 hS => ?_)
                            obtain ⟨u102, rfl⟩ : ∃ z, z = uu := ⟨_, rfl⟩
                            obtain ⟨hP1, hD1⟩ := hB
                            rw [ht1] at hP1
                            obtain ⟨q0, q1⟩ := inj2 hw
                            subst q0
                            subst q1
                            obtain ⟨hP, hD⟩ := va_joinF (fr := ([wL cI cJ aL jL u9, wS cI cJ aS hg2 u10, wW cI cJ aW jW aP u11, wP cI cJ aP hg3 u12, wR cI cJ aR hg4 aZ u13, wS cI cJ aZ hg5 u14, wO cI cJ aO hg6 u15, wM cI cJ aM jM u16, wY cI cJ jY u17] : List va_W)) (f1 := ([wX cI cJ aX hg1 aL aS aW aR aO u102] : List va_W)) hP hD [0] [1, 2, 3, 4, 5, 6, 7, 8, 9] rfl rfl (by decide) (by decide) hk1 hFc hP1 hD1
                            have hP : va_P (dC, dI) vwCl ([wX cI cJ aX hg1 aL aS aW aR aO u102, wL cI cJ aL jL u9, wS cI cJ aS hg2 u10, wW cI cJ aW jW aP u11, wP cI cJ aP hg3 u12, wR cI cJ aR hg4 aZ u13, wS cI cJ aZ hg5 u14, wO cI cJ aO hg6 u15, wM cI cJ aM jM u16, wY cI cJ jY u17] : List va_W).flatten H1 := hP.subF [9, 0, 1, 2, 3, 4, 5, 6, 7, 8] rfl
                            have hD : va_D A ([wX cI cJ aX hg1 aL aS aW aR aO u102, wL cI cJ aL jL u9, wS cI cJ aS hg2 u10, wW cI cJ aW jW aP u11, wP cI cJ aP hg3 u12, wR cI cJ aR hg4 aZ u13, wS cI cJ aZ hg5 u14, wO cI cJ aO hg6 u15, wM cI cJ aM jM u16, wY cI cJ jY u17] : List va_W).flatten := hD.subF [9, 0, 1, 2, 3, 4, 5, 6, 7, 8] (by decide) rfl
                            generalize H1 = H at hP hS ⊢
                            refine W.cs (Nat.add_zero _) (Nat.add_zero _) ?_
                            refine lv_pop hx hb dL_law_351 rfl ?_
                            refine lv_aload_n hx hb dL_law_352 rfl (lv_at hl 2 rfl) ?_
                            refine lv_aload_n hx hb dL_law_353 rfl (lv_at hl 0 rfl) ?_
                            refine lv_iload hx hb dL_law_354 (lv_at hl 4 rfl) ?_
                            refine lv_iconst (v := (1 : Int32)) hx hb dL_law_356 (by decide) ?_
                            refine lv_iadd hx hb dL_law_357 ?_
                            obtain ⟨g105, hm⟩ := gdi_of hm
                            refine va_sld hx hb hX hbl hbA hS g105 dL_law_358 ?_
                            have hPc : va_P (dC, dI) vwCl ([wM cI cJ aM jM u16] : List va_W).flatten _ := hP.subF [8] rfl
                            have hDc : va_D A ([wM cI cJ aM jM u16] : List va_W).flatten := hD.subF [8] (by decide) rfl
                            have hFc := va_freeF (fc := ([wM cI cJ aM jM u16] : List va_W)) hD hS hA [8] rfl
                            obtain ⟨u106o, r107o, e108, hm⟩ := oC2_of hm
                            refine va_calli (va_runV (As := [.int (xs ((x7 + (1 : Int32))).toNatClampNeg)]) (rest := []) ⟨hx, hb, hml, hown, ht⟩ (c_X7_lanes l dC dI cI cJ aM jM H.size u16 (xs ((x7 + (1 : Int32))).toNatClampNeg) (u106o, r107o) e108) (cwV 1 ht (gdV kw_566 kw_564 kw_565 kw_7 kw_563) rfl rfl rfl ⟨rfl, nd_X7_lanes⟩ ⟨Nat.le_of_ble_eq_true rfl, Nat.le_of_ble_eq_true rfl⟩) ⟨pcW_blind, va_recv hK hPc (ci := 8) (q0 := 0) rfl rfl, pcW_pre hPc hK hDc hN⟩ rfl rfl hl.1 rfl (lv_room (Nat.le_of_ble_eq_true rfl)) dL_law_359 ⟨Nat.le_trans (cle0 hc1) hmc, Nat.le_trans (cle0 hc2) hms⟩) hS (fun q _ z => hFc q z) hFc (fun r107 uu t H1 locs ht1 hvm hw hB hz1 hk1 hS => ?_)
                            obtain ⟨u106, rfl⟩ : ∃ z, z = uu := ⟨_, rfl⟩
                            obtain ⟨hP1, hD1⟩ := hB
                            rw [ht1] at hP1
                            obtain ⟨q0, q1⟩ := inj2 hw
                            subst q0
                            subst q1
                            obtain ⟨hP, hD⟩ := va_joinF (fr := ([wX cI cJ aX hg1 aL aS aW aR aO u102, wL cI cJ aL jL u9, wS cI cJ aS hg2 u10, wW cI cJ aW jW aP u11, wP cI cJ aP hg3 u12, wR cI cJ aR hg4 aZ u13, wS cI cJ aZ hg5 u14, wO cI cJ aO hg6 u15, wY cI cJ jY u17] : List va_W)) (f1 := ([wM cI cJ aM jM u106] : List va_W)) hP hD [8] [0, 1, 2, 3, 4, 5, 6, 7, 9] rfl rfl (by decide) (by decide) hk1 hFc hP1 hD1
                            have hP : va_P (dC, dI) vwCl ([wX cI cJ aX hg1 aL aS aW aR aO u102, wL cI cJ aL jL u9, wS cI cJ aS hg2 u10, wW cI cJ aW jW aP u11, wP cI cJ aP hg3 u12, wR cI cJ aR hg4 aZ u13, wS cI cJ aZ hg5 u14, wO cI cJ aO hg6 u15, wM cI cJ aM jM u106, wY cI cJ jY u17] : List va_W).flatten H1 := hP.subF [0, 1, 2, 3, 4, 5, 6, 7, 9, 8] rfl
                            have hD : va_D A ([wX cI cJ aX hg1 aL aS aW aR aO u102, wL cI cJ aL jL u9, wS cI cJ aS hg2 u10, wW cI cJ aW jW aP u11, wP cI cJ aP hg3 u12, wR cI cJ aR hg4 aZ u13, wS cI cJ aZ hg5 u14, wO cI cJ aO hg6 u15, wM cI cJ aM jM u106, wY cI cJ jY u17] : List va_W).flatten := hD.subF [0, 1, 2, 3, 4, 5, 6, 7, 9, 8] (by decide) rfl
                            generalize H1 = H at hP hS ⊢
                            refine W.cs (Nat.add_zero _) (Nat.add_zero _) ?_
                            refine lv_pop hx hb dL_law_362 rfl ?_
                            refine lv_goto (tgt := 645) hx hb dL_law_363 (by decide) ?_
                            obtain ⟨x109, ex109, hm⟩ := bnd_ex hm
                            refine lv_iinc (v := x109) (lv' := [(4, .int x109), (0, .ref b), (1, .ref aX), (2, .ref aM), (3, .ref (jY 0))]) hx hb dL_law_645 hl (k := 4) rfl (by rw [ex109]; exact congrArg _ (by decide)) (by decide) rfl (fun ls hl => ?_)
                            refine lv_goto (tgt := 33) hx hb dL_law_648 (by decide) ?_
                            exact ih33 x109 u102 u9 u10 u11 u12 u13 u14 u15 u106 u17 hg1 hg2 hg3 hg4 hg5 hg6 _ _ _ _ _ _ _ hm hc1 hc2 hP hD hS (lv_sub hl [1, 2, 3, 4, 0] rfl)
                          · have hm := ite_f c250 hm
                            by_cases c251 : x20 = (10 : Int32)
                            · have hm := ite_t c251 hm
                              refine lv_tableIn (tgt := 366) hx hb dL_law_49 (by rw [c251]; decide) (by rw [c251]; decide) (by rw [c251]; rfl) (by decide) ?_
                              refine lv_aload_n hx hb dL_law_366 rfl (lv_at hl 1 rfl) ?_
                              have hPc : va_P (dC, dI) vwCl ([wX cI cJ aX hg1 aL aS aW aR aO u8, wS cI cJ aS hg2 u10, wW cI cJ aW jW aP u11, wP cI cJ aP hg3 u12, wO cI cJ aO hg6 u15] : List va_W).flatten _ := hP.subF [0, 2, 3, 4, 7] rfl
                              have hDc : va_D A ([wX cI cJ aX hg1 aL aS aW aR aO u8, wS cI cJ aS hg2 u10, wW cI cJ aW jW aP u11, wP cI cJ aP hg3 u12, wO cI cJ aO hg6 u15] : List va_W).flatten := hD.subF [0, 2, 3, 4, 7] (by decide) rfl
                              have hFc := va_freeF (fc := ([wX cI cJ aX hg1 aL aS aW aR aO u8, wS cI cJ aS hg2 u10, wW cI cJ aW jW aP u11, wP cI cJ aP hg3 u12, wO cI cJ aO hg6 u15] : List va_W)) hD hS hA [0, 2, 3, 4, 7] rfl
                              obtain ⟨u110o, u111o, u112o, u113o, r117o, kc119, ks119, e118, hm⟩ := oA5_of hm
                              obtain ⟨kcq120, ksq120, hm, hkcq120, hksq120⟩ := addc_of hm
                              refine va_calli (va_runV (As := []) (rest := []) ⟨hx, hb, hml, hown, ht⟩ (c_X6_write l dC dI cI cJ aX hg1 aS hg2 aW jW aP hg3 aO hg6 aL aR H.size u8 u10 u11 u12 u15 (u110o, u111o, u112o, u113o, r117o) kc119 ks119 e118) (cwV 0 ht (gdV kw_570 kw_568 kw_569 kw_161 kw_567) rfl rfl rfl ⟨rfl, nd_X6_write⟩ ⟨Nat.le_of_ble_eq_true rfl, Nat.le_of_ble_eq_true rfl⟩) ⟨pcW_blind, va_recv hK hPc (ci := 7) (q0 := 0) rfl rfl, pcW_pre hPc hK hDc hN⟩ rfl rfl hl.1 rfl (lv_room (Nat.le_of_ble_eq_true rfl)) dL_law_367 ⟨Nat.le_trans (cle hc1 hkcq120) hmc, Nat.le_trans (cle hc2 hksq120) hms⟩) hS (fun q _ z => hFc q z) hFc (fun r117 uu t H1 locs ht1 hvm hw hB hz1 hk1 hS => ?_)
                              obtain ⟨u110, u111, u112, u113⟩ := uu
                              obtain ⟨h114, h115, h116, hP1, hD1⟩ := hB
                              rw [ht1] at hP1
                              obtain ⟨q0, q1, q2, q3, q4⟩ := inj5 hw
                              subst q0
                              subst q1
                              subst q2
                              subst q3
                              subst q4
                              obtain ⟨hP, hD⟩ := va_joinF (fr := ([wL cI cJ aL jL u9, wR cI cJ aR hg4 aZ u13, wS cI cJ aZ hg5 u14, wM cI cJ aM jM u16, wY cI cJ jY u17] : List va_W)) (f1 := ([wX cI cJ aX hg1 aL aS aW aR aO u8, wS cI cJ aS h114 u110, wW cI cJ aW jW aP u111, wP cI cJ aP h115 u112, wO cI cJ aO h116 u113] : List va_W)) hP hD [0, 2, 3, 4, 7] [1, 5, 6, 8, 9] rfl rfl (by decide) (by decide) hk1 hFc hP1 hD1
                              have hP : va_P (dC, dI) vwCl ([wX cI cJ aX hg1 aL aS aW aR aO u8, wL cI cJ aL jL u9, wS cI cJ aS h114 u110, wW cI cJ aW jW aP u111, wP cI cJ aP h115 u112, wR cI cJ aR hg4 aZ u13, wS cI cJ aZ hg5 u14, wO cI cJ aO h116 u113, wM cI cJ aM jM u16, wY cI cJ jY u17] : List va_W).flatten H1 := hP.subF [5, 0, 6, 7, 8, 1, 2, 9, 3, 4] rfl
                              have hD : va_D A ([wX cI cJ aX hg1 aL aS aW aR aO u8, wL cI cJ aL jL u9, wS cI cJ aS h114 u110, wW cI cJ aW jW aP u111, wP cI cJ aP h115 u112, wR cI cJ aR hg4 aZ u13, wS cI cJ aZ hg5 u14, wO cI cJ aO h116 u113, wM cI cJ aM jM u16, wY cI cJ jY u17] : List va_W).flatten := hD.subF [5, 0, 6, 7, 8, 1, 2, 9, 3, 4] (by decide) rfl
                              generalize H1 = H at hP hS ⊢
                              have hc1 := cadd hc1 hkcq120
                              have hc2 := cadd hc2 hksq120
                              refine lv_pop hx hb dL_law_370 rfl ?_
                              refine lv_aload_n hx hb dL_law_371 rfl (lv_at hl 2 rfl) ?_
                              have hPc : va_P (dC, dI) vwCl ([wM cI cJ aM jM u16] : List va_W).flatten _ := hP.subF [8] rfl
                              have hDc : va_D A ([wM cI cJ aM jM u16] : List va_W).flatten := hD.subF [8] (by decide) rfl
                              have hFc := va_freeF (fc := ([wM cI cJ aM jM u16] : List va_W)) hD hS hA [8] rfl
                              obtain ⟨u121o, r122o, e123, hm⟩ := oC2_of hm
                              refine va_calli (va_runV (As := []) (rest := []) ⟨hx, hb, hml, hown, ht⟩ (c_X7_write l dC dI cI cJ aM jM H.size u16 (u121o, r122o) e123) (cwV 0 ht (gdV kw_574 kw_572 kw_573 kw_7 kw_571) rfl rfl rfl ⟨rfl, nd_X7_write⟩ ⟨Nat.le_of_ble_eq_true rfl, Nat.le_of_ble_eq_true rfl⟩) ⟨pcW_blind, va_recv hK hPc (ci := 8) (q0 := 0) rfl rfl, pcW_pre hPc hK hDc hN⟩ rfl rfl hl.1 rfl (lv_room (Nat.le_of_ble_eq_true rfl)) dL_law_372 ⟨Nat.le_trans (cle0 hc1) hmc, Nat.le_trans (cle0 hc2) hms⟩) hS (fun q _ z => hFc q z) hFc (fun r122 uu t H1 locs ht1 hvm hw hB hz1 hk1 hS => ?_)
                              obtain ⟨u121, rfl⟩ : ∃ z, z = uu := ⟨_, rfl⟩
                              obtain ⟨hP1, hD1⟩ := hB
                              rw [ht1] at hP1
                              obtain ⟨q0, q1⟩ := inj2 hw
                              subst q0
                              subst q1
                              obtain ⟨hP, hD⟩ := va_joinF (fr := ([wX cI cJ aX hg1 aL aS aW aR aO u8, wL cI cJ aL jL u9, wS cI cJ aS h114 u110, wW cI cJ aW jW aP u111, wP cI cJ aP h115 u112, wR cI cJ aR hg4 aZ u13, wS cI cJ aZ hg5 u14, wO cI cJ aO h116 u113, wY cI cJ jY u17] : List va_W)) (f1 := ([wM cI cJ aM jM u121] : List va_W)) hP hD [8] [0, 1, 2, 3, 4, 5, 6, 7, 9] rfl rfl (by decide) (by decide) hk1 hFc hP1 hD1
                              have hP : va_P (dC, dI) vwCl ([wX cI cJ aX hg1 aL aS aW aR aO u8, wL cI cJ aL jL u9, wS cI cJ aS h114 u110, wW cI cJ aW jW aP u111, wP cI cJ aP h115 u112, wR cI cJ aR hg4 aZ u13, wS cI cJ aZ hg5 u14, wO cI cJ aO h116 u113, wM cI cJ aM jM u121, wY cI cJ jY u17] : List va_W).flatten H1 := hP.subF [0, 1, 2, 3, 4, 5, 6, 7, 9, 8] rfl
                              have hD : va_D A ([wX cI cJ aX hg1 aL aS aW aR aO u8, wL cI cJ aL jL u9, wS cI cJ aS h114 u110, wW cI cJ aW jW aP u111, wP cI cJ aP h115 u112, wR cI cJ aR hg4 aZ u13, wS cI cJ aZ hg5 u14, wO cI cJ aO h116 u113, wM cI cJ aM jM u121, wY cI cJ jY u17] : List va_W).flatten := hD.subF [0, 1, 2, 3, 4, 5, 6, 7, 9, 8] (by decide) rfl
                              generalize H1 = H at hP hS ⊢
                              refine W.cs (Nat.add_zero _) (Nat.add_zero _) ?_
                              refine lv_pop hx hb dL_law_375 rfl ?_
                              refine lv_goto (tgt := 645) hx hb dL_law_376 (by decide) ?_
                              obtain ⟨x124, ex124, hm⟩ := bnd_ex hm
                              refine lv_iinc (v := x124) (lv' := [(4, .int x124), (0, .ref b), (1, .ref aX), (2, .ref aM), (3, .ref (jY 0))]) hx hb dL_law_645 hl (k := 4) rfl (by rw [ex124]; exact congrArg _ (by decide)) (by decide) rfl (fun ls hl => ?_)
                              refine lv_goto (tgt := 33) hx hb dL_law_648 (by decide) ?_
                              exact ih33 x124 u8 u9 u110 u111 u112 u13 u14 u113 u121 u17 hg1 h114 h115 hg4 hg5 h116 _ _ _ _ _ _ _ hm hc1 hc2 hP hD hS (lv_sub hl [1, 2, 3, 4, 0] rfl)
                            · have hm := ite_f c251 hm
                              by_cases c252 : x20 = (11 : Int32)
                              · have hm := ite_t c252 hm
                                refine lv_tableIn (tgt := 379) hx hb dL_law_49 (by rw [c252]; decide) (by rw [c252]; decide) (by rw [c252]; rfl) (by decide) ?_
                                refine lv_aload_n hx hb dL_law_379 rfl (lv_at hl 1 rfl) ?_
                                have hPc : va_P (dC, dI) vwCl ([wX cI cJ aX hg1 aL aS aW aR aO u8, wR cI cJ aR hg4 aZ u13, wS cI cJ aZ hg5 u14, wO cI cJ aO hg6 u15] : List va_W).flatten _ := hP.subF [0, 5, 6, 7] rfl
                                have hDc : va_D A ([wX cI cJ aX hg1 aL aS aW aR aO u8, wR cI cJ aR hg4 aZ u13, wS cI cJ aZ hg5 u14, wO cI cJ aO hg6 u15] : List va_W).flatten := hD.subF [0, 5, 6, 7] (by decide) rfl
                                have hFc := va_freeF (fc := ([wX cI cJ aX hg1 aL aS aW aR aO u8, wR cI cJ aR hg4 aZ u13, wS cI cJ aZ hg5 u14, wO cI cJ aO hg6 u15] : List va_W)) hD hS hA [0, 5, 6, 7] rfl
                                obtain ⟨u125o, u126o, r129o, kc131, ks131, e130, hm⟩ := oA3_of hm
                                obtain ⟨kcq132, ksq132, hm, hkcq132, hksq132⟩ := addc_of hm
                                refine va_calli (va_runV (As := []) (rest := []) ⟨hx, hb, hml, hown, ht⟩ (c_X6_read l dC dI cI cJ aX hg1 aR hg4 aZ hg5 aO hg6 aL aS aW H.size u8 u13 u14 u15 (u125o, u126o, r129o) kc131 ks131 e130) (cwV 0 ht (gdV kw_578 kw_576 kw_577 kw_161 kw_575) rfl rfl rfl ⟨rfl, nd_X6_read⟩ ⟨Nat.le_of_ble_eq_true rfl, Nat.le_of_ble_eq_true rfl⟩) ⟨pcW_blind, va_recv hK hPc (ci := 7) (q0 := 0) rfl rfl, pcW_pre hPc hK hDc hN⟩ rfl rfl hl.1 rfl (lv_room (Nat.le_of_ble_eq_true rfl)) dL_law_380 ⟨Nat.le_trans (cle hc1 hkcq132) hmc, Nat.le_trans (cle hc2 hksq132) hms⟩) hS (fun q _ z => hFc q z) hFc (fun r129 uu t H1 locs ht1 hvm hw hB hz1 hk1 hS => ?_)
                                obtain ⟨u125, u126⟩ := uu
                                obtain ⟨h127, h128, hP1, hD1⟩ := hB
                                rw [ht1] at hP1
                                obtain ⟨q0, q1, q2⟩ := inj3 hw
                                subst q0
                                subst q1
                                subst q2
                                obtain ⟨hP, hD⟩ := va_joinF (fr := ([wL cI cJ aL jL u9, wS cI cJ aS hg2 u10, wW cI cJ aW jW aP u11, wP cI cJ aP hg3 u12, wM cI cJ aM jM u16, wY cI cJ jY u17] : List va_W)) (f1 := ([wX cI cJ aX hg1 aL aS aW aR aO u8, wR cI cJ aR h127 aZ u125, wS cI cJ aZ h128 u126, wO cI cJ aO hg6 u15] : List va_W)) hP hD [0, 5, 6, 7] [1, 2, 3, 4, 8, 9] rfl rfl (by decide) (by decide) hk1 hFc hP1 hD1
                                have hP : va_P (dC, dI) vwCl ([wX cI cJ aX hg1 aL aS aW aR aO u8, wL cI cJ aL jL u9, wS cI cJ aS hg2 u10, wW cI cJ aW jW aP u11, wP cI cJ aP hg3 u12, wR cI cJ aR h127 aZ u125, wS cI cJ aZ h128 u126, wO cI cJ aO hg6 u15, wM cI cJ aM jM u16, wY cI cJ jY u17] : List va_W).flatten H1 := hP.subF [6, 0, 1, 2, 3, 7, 8, 9, 4, 5] rfl
                                have hD : va_D A ([wX cI cJ aX hg1 aL aS aW aR aO u8, wL cI cJ aL jL u9, wS cI cJ aS hg2 u10, wW cI cJ aW jW aP u11, wP cI cJ aP hg3 u12, wR cI cJ aR h127 aZ u125, wS cI cJ aZ h128 u126, wO cI cJ aO hg6 u15, wM cI cJ aM jM u16, wY cI cJ jY u17] : List va_W).flatten := hD.subF [6, 0, 1, 2, 3, 7, 8, 9, 4, 5] (by decide) rfl
                                generalize H1 = H at hP hS ⊢
                                have hc1 := cadd hc1 hkcq132
                                have hc2 := cadd hc2 hksq132
                                refine lv_pop hx hb dL_law_383 rfl ?_
                                refine lv_aload_n hx hb dL_law_384 rfl (lv_at hl 2 rfl) ?_
                                have hPc : va_P (dC, dI) vwCl ([wM cI cJ aM jM u16] : List va_W).flatten _ := hP.subF [8] rfl
                                have hDc : va_D A ([wM cI cJ aM jM u16] : List va_W).flatten := hD.subF [8] (by decide) rfl
                                have hFc := va_freeF (fc := ([wM cI cJ aM jM u16] : List va_W)) hD hS hA [8] rfl
                                obtain ⟨u133o, r134o, e135, hm⟩ := oC2_of hm
                                refine va_calli (va_runV (As := []) (rest := []) ⟨hx, hb, hml, hown, ht⟩ (c_X7_read l dC dI cI cJ aM jM H.size u16 (u133o, r134o) e135) (cwV 0 ht (gdV kw_582 kw_580 kw_581 kw_7 kw_579) rfl rfl rfl ⟨rfl, nd_X7_read⟩ ⟨Nat.le_of_ble_eq_true rfl, Nat.le_of_ble_eq_true rfl⟩) ⟨pcW_blind, va_recv hK hPc (ci := 8) (q0 := 0) rfl rfl, pcW_pre hPc hK hDc hN⟩ rfl rfl hl.1 rfl (lv_room (Nat.le_of_ble_eq_true rfl)) dL_law_385 ⟨Nat.le_trans (cle0 hc1) hmc, Nat.le_trans (cle0 hc2) hms⟩) hS (fun q _ z => hFc q z) hFc (fun r134 uu t H1 locs ht1 hvm hw hB hz1 hk1 hS => ?_)
                                obtain ⟨u133, rfl⟩ : ∃ z, z = uu := ⟨_, rfl⟩
                                obtain ⟨hP1, hD1⟩ := hB
                                rw [ht1] at hP1
                                obtain ⟨q0, q1⟩ := inj2 hw
                                subst q0
                                subst q1
                                obtain ⟨hP, hD⟩ := va_joinF (fr := ([wX cI cJ aX hg1 aL aS aW aR aO u8, wL cI cJ aL jL u9, wS cI cJ aS hg2 u10, wW cI cJ aW jW aP u11, wP cI cJ aP hg3 u12, wR cI cJ aR h127 aZ u125, wS cI cJ aZ h128 u126, wO cI cJ aO hg6 u15, wY cI cJ jY u17] : List va_W)) (f1 := ([wM cI cJ aM jM u133] : List va_W)) hP hD [8] [0, 1, 2, 3, 4, 5, 6, 7, 9] rfl rfl (by decide) (by decide) hk1 hFc hP1 hD1
                                have hP : va_P (dC, dI) vwCl ([wX cI cJ aX hg1 aL aS aW aR aO u8, wL cI cJ aL jL u9, wS cI cJ aS hg2 u10, wW cI cJ aW jW aP u11, wP cI cJ aP hg3 u12, wR cI cJ aR h127 aZ u125, wS cI cJ aZ h128 u126, wO cI cJ aO hg6 u15, wM cI cJ aM jM u133, wY cI cJ jY u17] : List va_W).flatten H1 := hP.subF [0, 1, 2, 3, 4, 5, 6, 7, 9, 8] rfl
                                have hD : va_D A ([wX cI cJ aX hg1 aL aS aW aR aO u8, wL cI cJ aL jL u9, wS cI cJ aS hg2 u10, wW cI cJ aW jW aP u11, wP cI cJ aP hg3 u12, wR cI cJ aR h127 aZ u125, wS cI cJ aZ h128 u126, wO cI cJ aO hg6 u15, wM cI cJ aM jM u133, wY cI cJ jY u17] : List va_W).flatten := hD.subF [0, 1, 2, 3, 4, 5, 6, 7, 9, 8] (by decide) rfl
                                generalize H1 = H at hP hS ⊢
                                refine W.cs (Nat.add_zero _) (Nat.add_zero _) ?_
                                refine lv_pop hx hb dL_law_388 rfl ?_
                                refine lv_goto (tgt := 645) hx hb dL_law_389 (by decide) ?_
                                obtain ⟨x136, ex136, hm⟩ := bnd_ex hm
                                refine lv_iinc (v := x136) (lv' := [(4, .int x136), (0, .ref b), (1, .ref aX), (2, .ref aM), (3, .ref (jY 0))]) hx hb dL_law_645 hl (k := 4) rfl (by rw [ex136]; exact congrArg _ (by decide)) (by decide) rfl (fun ls hl => ?_)
                                refine lv_goto (tgt := 33) hx hb dL_law_648 (by decide) ?_
                                exact ih33 x136 u8 u9 u10 u11 u12 u125 u126 u15 u133 u17 hg1 hg2 hg3 h127 h128 hg6 _ _ _ _ _ _ _ hm hc1 hc2 hP hD hS (lv_sub hl [1, 2, 3, 4, 0] rfl)
                              · have hm := ite_f c252 hm
                                by_cases c253 : x20 = (12 : Int32)
                                · have hm := ite_t c253 hm
                                  refine lv_tableIn (tgt := 392) hx hb dL_law_49 (by rw [c253]; decide) (by rw [c253]; decide) (by rw [c253]; rfl) (by decide) ?_
                                  refine lv_aload_n hx hb dL_law_392 rfl (lv_at hl 1 rfl) ?_
                                  have hPc : va_P (dC, dI) vwCl ([wX cI cJ aX hg1 aL aS aW aR aO u8, wR cI cJ aR hg4 aZ u13] : List va_W).flatten _ := hP.subF [0, 5] rfl
                                  have hDc : va_D A ([wX cI cJ aX hg1 aL aS aW aR aO u8, wR cI cJ aR hg4 aZ u13] : List va_W).flatten := hD.subF [0, 5] (by decide) rfl
                                  have hFc := va_freeF (fc := ([wX cI cJ aX hg1 aL aS aW aR aO u8, wR cI cJ aR hg4 aZ u13] : List va_W)) hD hS hA [0, 5] rfl
                                  obtain ⟨r137o, e138, hm⟩ := oC1_of hm
                                  refine va_calli (va_runV (As := []) (rest := []) ⟨hx, hb, hml, hown, ht⟩ (c_X6_rule l dC dI cI cJ aX hg1 aR hg4 aL aS aW aO aZ H.size u8 u13 r137o e138) (cwV 0 ht (gdV kw_586 kw_584 kw_585 kw_161 kw_583) rfl rfl rfl ⟨rfl, nd_X6_rule⟩ ⟨Nat.le_of_ble_eq_true rfl, Nat.le_of_ble_eq_true rfl⟩) ⟨pcW_blind, va_recv hK hPc (ci := 7) (q0 := 0) rfl rfl, pcW_pre hPc hK hDc hN⟩ rfl rfl hl.1 rfl (lv_room (Nat.le_of_ble_eq_true rfl)) dL_law_393 ⟨Nat.le_trans (cle0 hc1) hmc, Nat.le_trans (cle0 hc2) hms⟩) hS (fun q _ z => hFc q z) hFc (fun r137 uu t H1 locs ht1 hvm hw hB hz1 hk1 hS => ?_)
                                  obtain ⟨⟩ := uu
                                  obtain ⟨hP1, hD1⟩ := hB
                                  rw [ht1] at hP1
                                  obtain rfl : r137 = r137o := Option.some.inj hw
                                  obtain ⟨hP, hD⟩ := va_joinF (fr := ([wL cI cJ aL jL u9, wS cI cJ aS hg2 u10, wW cI cJ aW jW aP u11, wP cI cJ aP hg3 u12, wS cI cJ aZ hg5 u14, wO cI cJ aO hg6 u15, wM cI cJ aM jM u16, wY cI cJ jY u17] : List va_W)) (f1 := ([wX cI cJ aX hg1 aL aS aW aR aO u8, wR cI cJ aR hg4 aZ u13] : List va_W)) hP hD [0, 5] [1, 2, 3, 4, 6, 7, 8, 9] rfl rfl (by decide) (by decide) hk1 hFc hP1 hD1
                                  have hP : va_P (dC, dI) vwCl ([wX cI cJ aX hg1 aL aS aW aR aO u8, wL cI cJ aL jL u9, wS cI cJ aS hg2 u10, wW cI cJ aW jW aP u11, wP cI cJ aP hg3 u12, wR cI cJ aR hg4 aZ u13, wS cI cJ aZ hg5 u14, wO cI cJ aO hg6 u15, wM cI cJ aM jM u16, wY cI cJ jY u17] : List va_W).flatten H1 := hP.subF [8, 0, 1, 2, 3, 9, 4, 5, 6, 7] rfl
                                  have hD : va_D A ([wX cI cJ aX hg1 aL aS aW aR aO u8, wL cI cJ aL jL u9, wS cI cJ aS hg2 u10, wW cI cJ aW jW aP u11, wP cI cJ aP hg3 u12, wR cI cJ aR hg4 aZ u13, wS cI cJ aZ hg5 u14, wO cI cJ aO hg6 u15, wM cI cJ aM jM u16, wY cI cJ jY u17] : List va_W).flatten := hD.subF [8, 0, 1, 2, 3, 9, 4, 5, 6, 7] (by decide) rfl
                                  generalize H1 = H at hP hS ⊢
                                  refine W.cs (Nat.add_zero _) (Nat.add_zero _) ?_
                                  refine lv_pop hx hb dL_law_396 rfl ?_
                                  refine lv_aload_n hx hb dL_law_397 rfl (lv_at hl 2 rfl) ?_
                                  have hPc : va_P (dC, dI) vwCl ([wM cI cJ aM jM u16] : List va_W).flatten _ := hP.subF [8] rfl
                                  have hDc : va_D A ([wM cI cJ aM jM u16] : List va_W).flatten := hD.subF [8] (by decide) rfl
                                  have hFc := va_freeF (fc := ([wM cI cJ aM jM u16] : List va_W)) hD hS hA [8] rfl
                                  obtain ⟨u139o, r140o, e141, hm⟩ := oC2_of hm
                                  refine va_calli (va_runV (As := []) (rest := []) ⟨hx, hb, hml, hown, ht⟩ (c_X7_rule l dC dI cI cJ aM jM H.size u16 (u139o, r140o) e141) (cwV 0 ht (gdV kw_590 kw_588 kw_589 kw_7 kw_587) rfl rfl rfl ⟨rfl, nd_X7_rule⟩ ⟨Nat.le_of_ble_eq_true rfl, Nat.le_of_ble_eq_true rfl⟩) ⟨pcW_blind, va_recv hK hPc (ci := 8) (q0 := 0) rfl rfl, pcW_pre hPc hK hDc hN⟩ rfl rfl hl.1 rfl (lv_room (Nat.le_of_ble_eq_true rfl)) dL_law_398 ⟨Nat.le_trans (cle0 hc1) hmc, Nat.le_trans (cle0 hc2) hms⟩) hS (fun q _ z => hFc q z) hFc (fun r140 uu t H1 locs ht1 hvm hw hB hz1 hk1 hS => ?_)
                                  obtain ⟨u139, rfl⟩ : ∃ z, z = uu := ⟨_, rfl⟩
                                  obtain ⟨hP1, hD1⟩ := hB
                                  rw [ht1] at hP1
                                  obtain ⟨q0, q1⟩ := inj2 hw
                                  subst q0
                                  subst q1
                                  obtain ⟨hP, hD⟩ := va_joinF (fr := ([wX cI cJ aX hg1 aL aS aW aR aO u8, wL cI cJ aL jL u9, wS cI cJ aS hg2 u10, wW cI cJ aW jW aP u11, wP cI cJ aP hg3 u12, wR cI cJ aR hg4 aZ u13, wS cI cJ aZ hg5 u14, wO cI cJ aO hg6 u15, wY cI cJ jY u17] : List va_W)) (f1 := ([wM cI cJ aM jM u139] : List va_W)) hP hD [8] [0, 1, 2, 3, 4, 5, 6, 7, 9] rfl rfl (by decide) (by decide) hk1 hFc hP1 hD1
                                  have hP : va_P (dC, dI) vwCl ([wX cI cJ aX hg1 aL aS aW aR aO u8, wL cI cJ aL jL u9, wS cI cJ aS hg2 u10, wW cI cJ aW jW aP u11, wP cI cJ aP hg3 u12, wR cI cJ aR hg4 aZ u13, wS cI cJ aZ hg5 u14, wO cI cJ aO hg6 u15, wM cI cJ aM jM u139, wY cI cJ jY u17] : List va_W).flatten H1 := hP.subF [0, 1, 2, 3, 4, 5, 6, 7, 9, 8] rfl
                                  have hD : va_D A ([wX cI cJ aX hg1 aL aS aW aR aO u8, wL cI cJ aL jL u9, wS cI cJ aS hg2 u10, wW cI cJ aW jW aP u11, wP cI cJ aP hg3 u12, wR cI cJ aR hg4 aZ u13, wS cI cJ aZ hg5 u14, wO cI cJ aO hg6 u15, wM cI cJ aM jM u139, wY cI cJ jY u17] : List va_W).flatten := hD.subF [0, 1, 2, 3, 4, 5, 6, 7, 9, 8] (by decide) rfl
                                  generalize H1 = H at hP hS ⊢
                                  refine W.cs (Nat.add_zero _) (Nat.add_zero _) ?_
                                  refine lv_pop hx hb dL_law_401 rfl ?_
                                  refine lv_goto (tgt := 645) hx hb dL_law_402 (by decide) ?_
                                  obtain ⟨x142, ex142, hm⟩ := bnd_ex hm
                                  refine lv_iinc (v := x142) (lv' := [(4, .int x142), (0, .ref b), (1, .ref aX), (2, .ref aM), (3, .ref (jY 0))]) hx hb dL_law_645 hl (k := 4) rfl (by rw [ex142]; exact congrArg _ (by decide)) (by decide) rfl (fun ls hl => ?_)
                                  refine lv_goto (tgt := 33) hx hb dL_law_648 (by decide) ?_
                                  exact ih33 x142 u8 u9 u10 u11 u12 u13 u14 u15 u139 u17 hg1 hg2 hg3 hg4 hg5 hg6 _ _ _ _ _ _ _ hm hc1 hc2 hP hD hS (lv_sub hl [1, 2, 3, 4, 0] rfl)
                                · have hm := ite_f c253 hm
                                  by_cases c254 : x20 = (13 : Int32)
                                  · have hm := ite_t c254 hm
                                    refine lv_tableIn (tgt := 405) hx hb dL_law_49 (by rw [c254]; decide) (by rw [c254]; decide) (by rw [c254]; rfl) (by decide) ?_
                                    refine lv_aload_n hx hb dL_law_405 rfl (lv_at hl 1 rfl) ?_
                                    refine lv_aload_n hx hb dL_law_406 rfl (lv_at hl 0 rfl) ?_
                                    refine lv_iload hx hb dL_law_407 (lv_at hl 4 rfl) ?_
                                    refine lv_iconst (v := (1 : Int32)) hx hb dL_law_409 (by decide) ?_
                                    refine lv_iadd hx hb dL_law_410 ?_
                                    obtain ⟨g143, hm⟩ := gdi_of hm
                                    refine va_sld hx hb hX hbl hbA hS g143 dL_law_411 ?_
                                    have hPc : va_P (dC, dI) vwCl ([wX cI cJ aX hg1 aL aS aW aR aO u8, wR cI cJ aR hg4 aZ u13] : List va_W).flatten _ := hP.subF [0, 5] rfl
                                    have hDc : va_D A ([wX cI cJ aX hg1 aL aS aW aR aO u8, wR cI cJ aR hg4 aZ u13] : List va_W).flatten := hD.subF [0, 5] (by decide) rfl
                                    have hFc := va_freeF (fc := ([wX cI cJ aX hg1 aL aS aW aR aO u8, wR cI cJ aR hg4 aZ u13] : List va_W)) hD hS hA [0, 5] rfl
                                    obtain ⟨r144o, e145, hm⟩ := oC1_of hm
                                    refine va_calli (va_runV (As := [.int (xs ((x7 + (1 : Int32))).toNatClampNeg)]) (rest := []) ⟨hx, hb, hml, hown, ht⟩ (c_X6_sign l dC dI cI cJ aX hg1 aR hg4 aL aS aW aO aZ H.size u8 u13 (xs ((x7 + (1 : Int32))).toNatClampNeg) r144o e145) (cwV 1 ht (gdV kw_594 kw_592 kw_593 kw_161 kw_591) rfl rfl rfl ⟨rfl, nd_X6_sign⟩ ⟨Nat.le_of_ble_eq_true rfl, Nat.le_of_ble_eq_true rfl⟩) ⟨pcW_blind, va_recv hK hPc (ci := 7) (q0 := 0) rfl rfl, pcW_pre hPc hK hDc hN⟩ rfl rfl hl.1 rfl (lv_room (Nat.le_of_ble_eq_true rfl)) dL_law_412 ⟨Nat.le_trans (cle0 hc1) hmc, Nat.le_trans (cle0 hc2) hms⟩) hS (fun q _ z => hFc q z) hFc (fun r144 uu t H1 locs ht1 hvm hw hB hz1 hk1 hS => ?_)
                                    obtain ⟨⟩ := uu
                                    obtain ⟨hP1, hD1⟩ := hB
                                    rw [ht1] at hP1
                                    obtain rfl : r144 = r144o := Option.some.inj hw
                                    obtain ⟨hP, hD⟩ := va_joinF (fr := ([wL cI cJ aL jL u9, wS cI cJ aS hg2 u10, wW cI cJ aW jW aP u11, wP cI cJ aP hg3 u12, wS cI cJ aZ hg5 u14, wO cI cJ aO hg6 u15, wM cI cJ aM jM u16, wY cI cJ jY u17] : List va_W)) (f1 := ([wX cI cJ aX hg1 aL aS aW aR aO u8, wR cI cJ aR hg4 aZ u13] : List va_W)) hP hD [0, 5] [1, 2, 3, 4, 6, 7, 8, 9] rfl rfl (by decide) (by decide) hk1 hFc hP1 hD1
                                    have hP : va_P (dC, dI) vwCl ([wX cI cJ aX hg1 aL aS aW aR aO u8, wL cI cJ aL jL u9, wS cI cJ aS hg2 u10, wW cI cJ aW jW aP u11, wP cI cJ aP hg3 u12, wR cI cJ aR hg4 aZ u13, wS cI cJ aZ hg5 u14, wO cI cJ aO hg6 u15, wM cI cJ aM jM u16, wY cI cJ jY u17] : List va_W).flatten H1 := hP.subF [8, 0, 1, 2, 3, 9, 4, 5, 6, 7] rfl
                                    have hD : va_D A ([wX cI cJ aX hg1 aL aS aW aR aO u8, wL cI cJ aL jL u9, wS cI cJ aS hg2 u10, wW cI cJ aW jW aP u11, wP cI cJ aP hg3 u12, wR cI cJ aR hg4 aZ u13, wS cI cJ aZ hg5 u14, wO cI cJ aO hg6 u15, wM cI cJ aM jM u16, wY cI cJ jY u17] : List va_W).flatten := hD.subF [8, 0, 1, 2, 3, 9, 4, 5, 6, 7] (by decide) rfl
                                    generalize H1 = H at hP hS ⊢
                                    refine W.cs (Nat.add_zero _) (Nat.add_zero _) ?_
                                    refine lv_pop hx hb dL_law_415 rfl ?_
                                    refine lv_aload_n hx hb dL_law_416 rfl (lv_at hl 2 rfl) ?_
                                    refine lv_aload_n hx hb dL_law_417 rfl (lv_at hl 0 rfl) ?_
                                    refine lv_iload hx hb dL_law_418 (lv_at hl 4 rfl) ?_
                                    refine lv_iconst (v := (1 : Int32)) hx hb dL_law_420 (by decide) ?_
                                    refine lv_iadd hx hb dL_law_421 ?_
                                    obtain ⟨g146, hm⟩ := gdi_of hm
                                    refine va_sld hx hb hX hbl hbA hS g146 dL_law_422 ?_
                                    have hPc : va_P (dC, dI) vwCl ([wM cI cJ aM jM u16] : List va_W).flatten _ := hP.subF [8] rfl
                                    have hDc : va_D A ([wM cI cJ aM jM u16] : List va_W).flatten := hD.subF [8] (by decide) rfl
                                    have hFc := va_freeF (fc := ([wM cI cJ aM jM u16] : List va_W)) hD hS hA [8] rfl
                                    obtain ⟨u147o, r148o, e149, hm⟩ := oC2_of hm
                                    refine va_calli (va_runV (As := [.int (xs ((x7 + (1 : Int32))).toNatClampNeg)]) (rest := []) ⟨hx, hb, hml, hown, ht⟩ (c_X7_sign l dC dI cI cJ aM jM H.size u16 (xs ((x7 + (1 : Int32))).toNatClampNeg) (u147o, r148o) e149) (cwV 1 ht (gdV kw_598 kw_596 kw_597 kw_7 kw_595) rfl rfl rfl ⟨rfl, nd_X7_sign⟩ ⟨Nat.le_of_ble_eq_true rfl, Nat.le_of_ble_eq_true rfl⟩) ⟨pcW_blind, va_recv hK hPc (ci := 8) (q0 := 0) rfl rfl, pcW_pre hPc hK hDc hN⟩ rfl rfl hl.1 rfl (lv_room (Nat.le_of_ble_eq_true rfl)) dL_law_423 ⟨Nat.le_trans (cle0 hc1) hmc, Nat.le_trans (cle0 hc2) hms⟩) hS (fun q _ z => hFc q z) hFc (fun r148 uu t H1 locs ht1 hvm hw hB hz1 hk1 hS => ?_)
                                    obtain ⟨u147, rfl⟩ : ∃ z, z = uu := ⟨_, rfl⟩
                                    obtain ⟨hP1, hD1⟩ := hB
                                    rw [ht1] at hP1
                                    obtain ⟨q0, q1⟩ := inj2 hw
                                    subst q0
                                    subst q1
                                    obtain ⟨hP, hD⟩ := va_joinF (fr := ([wX cI cJ aX hg1 aL aS aW aR aO u8, wL cI cJ aL jL u9, wS cI cJ aS hg2 u10, wW cI cJ aW jW aP u11, wP cI cJ aP hg3 u12, wR cI cJ aR hg4 aZ u13, wS cI cJ aZ hg5 u14, wO cI cJ aO hg6 u15, wY cI cJ jY u17] : List va_W)) (f1 := ([wM cI cJ aM jM u147] : List va_W)) hP hD [8] [0, 1, 2, 3, 4, 5, 6, 7, 9] rfl rfl (by decide) (by decide) hk1 hFc hP1 hD1
                                    have hP : va_P (dC, dI) vwCl ([wX cI cJ aX hg1 aL aS aW aR aO u8, wL cI cJ aL jL u9, wS cI cJ aS hg2 u10, wW cI cJ aW jW aP u11, wP cI cJ aP hg3 u12, wR cI cJ aR hg4 aZ u13, wS cI cJ aZ hg5 u14, wO cI cJ aO hg6 u15, wM cI cJ aM jM u147, wY cI cJ jY u17] : List va_W).flatten H1 := hP.subF [0, 1, 2, 3, 4, 5, 6, 7, 9, 8] rfl
                                    have hD : va_D A ([wX cI cJ aX hg1 aL aS aW aR aO u8, wL cI cJ aL jL u9, wS cI cJ aS hg2 u10, wW cI cJ aW jW aP u11, wP cI cJ aP hg3 u12, wR cI cJ aR hg4 aZ u13, wS cI cJ aZ hg5 u14, wO cI cJ aO hg6 u15, wM cI cJ aM jM u147, wY cI cJ jY u17] : List va_W).flatten := hD.subF [0, 1, 2, 3, 4, 5, 6, 7, 9, 8] (by decide) rfl
                                    generalize H1 = H at hP hS ⊢
                                    refine W.cs (Nat.add_zero _) (Nat.add_zero _) ?_
                                    refine lv_pop hx hb dL_law_426 rfl ?_
                                    refine lv_goto (tgt := 645) hx hb dL_law_427 (by decide) ?_
                                    obtain ⟨x150, ex150, hm⟩ := bnd_ex hm
                                    refine lv_iinc (v := x150) (lv' := [(4, .int x150), (0, .ref b), (1, .ref aX), (2, .ref aM), (3, .ref (jY 0))]) hx hb dL_law_645 hl (k := 4) rfl (by rw [ex150]; exact congrArg _ (by decide)) (by decide) rfl (fun ls hl => ?_)
                                    refine lv_goto (tgt := 33) hx hb dL_law_648 (by decide) ?_
                                    exact ih33 x150 u8 u9 u10 u11 u12 u13 u14 u15 u147 u17 hg1 hg2 hg3 hg4 hg5 hg6 _ _ _ _ _ _ _ hm hc1 hc2 hP hD hS (lv_sub hl [1, 2, 3, 4, 0] rfl)
                                  · have hm := ite_f c254 hm
                                    by_cases c255 : x20 = (14 : Int32)
                                    · have hm := ite_t c255 hm
                                      refine lv_tableIn (tgt := 430) hx hb dL_law_49 (by rw [c255]; decide) (by rw [c255]; decide) (by rw [c255]; rfl) (by decide) ?_
                                      refine lv_aload_n hx hb dL_law_430 rfl (lv_at hl 1 rfl) ?_
                                      refine lv_aload_n hx hb dL_law_431 rfl (lv_at hl 0 rfl) ?_
                                      refine lv_iload hx hb dL_law_432 (lv_at hl 4 rfl) ?_
                                      refine lv_iconst (v := (1 : Int32)) hx hb dL_law_434 (by decide) ?_
                                      refine lv_iadd hx hb dL_law_435 ?_
                                      obtain ⟨g151, hm⟩ := gdi_of hm
                                      refine va_sld hx hb hX hbl hbA hS g151 dL_law_436 ?_
                                      refine lv_aload_n hx hb dL_law_437 rfl (lv_at hl 3 rfl) ?_
                                      have hPc : va_P (dC, dI) vwCl ([wX cI cJ aX hg1 aL aS aW aR aO u8, wS cI cJ aS hg2 u10, wY cI cJ jY u17] : List va_W).flatten _ := hP.subF [0, 2, 9] rfl
                                      have hDc : va_D A ([wX cI cJ aX hg1 aL aS aW aR aO u8, wS cI cJ aS hg2 u10, wY cI cJ jY u17] : List va_W).flatten := hD.subF [0, 2, 9] (by decide) rfl
                                      have hFc := va_freeF (fc := ([wX cI cJ aX hg1 aL aS aW aR aO u8, wS cI cJ aS hg2 u10, wY cI cJ jY u17] : List va_W)) hD hS hA [0, 2, 9] rfl
                                      obtain ⟨u152o, u153o, r155o, kc156, ks156, e156, hm⟩ := oA3_of hm
                                      obtain ⟨kr156, sr156, hm, hkc156, hks156⟩ := addc_of hm
                                      refine va_calli (va_runSW (hh := [(0, 9, 12, 13)]) (As := [.ref aX, .int (xs ((x7 + (1 : Int32))).toNatClampNeg), .ref (jY 0)]) (rest := []) ⟨hx, hb, hml, hown, ht⟩ (c_Lspread l hfl dC dI cI cJ aX hg1 aS hg2 jY aL aW aR aO H.size u8 u10 u17 (xs ((x7 + (1 : Int32))).toNatClampNeg) (u152o, u153o, r155o) kc156 ks156 e156) rfl rfl (Nat.le_of_ble_eq_true rfl) (Nat.le_of_ble_eq_true rfl) (hws_of kw_599 ht) List.mem_cons_self (ht _ kw_601) nd_L_spread (ht _ kw_602) (ht _ kw_600) ⟨pcT_blind, pcT_pre hPc hK hDc hN hTH (fun q hq => hS.2.1 q hq (fun z => absurd (hA2 q z) (Nat.not_le.mpr hq)))⟩ rfl rfl hl.1 rfl (lv_room (Nat.le_of_ble_eq_true rfl)) dL_law_438 ⟨Nat.le_trans (cle hc1 hkc156) hmc, Nat.le_trans (cle hc2 hks156) hms⟩) hS (fun q _ z => hFc q z) hFc (fun r155 uu t H1 locs ht1 hvm hw hB hz1 hk1 hS => ?_)
                                      obtain ⟨u152, u153⟩ := uu
                                      obtain ⟨h154, hP1, hD1⟩ := hB
                                      rw [ht1] at hP1
                                      obtain ⟨q0, q1, q2⟩ := inj3 hw
                                      subst q0
                                      subst q1
                                      subst q2
                                      have hc1 := cadd hc1 hkc156
                                      have hc2 := cadd hc2 hks156
                                      obtain ⟨hP, hD⟩ := va_joinF (fr := ([wL cI cJ aL jL u9, wW cI cJ aW jW aP u11, wP cI cJ aP hg3 u12, wR cI cJ aR hg4 aZ u13, wS cI cJ aZ hg5 u14, wO cI cJ aO hg6 u15, wM cI cJ aM jM u16] : List va_W)) (f1 := ([wX cI cJ aX hg1 aL aS aW aR aO u8, wS cI cJ aS h154 u152, wY cI cJ jY u153] : List va_W)) hP hD [0, 2, 9] [1, 3, 4, 5, 6, 7, 8] rfl rfl (by decide) (by decide) hk1 hFc hP1 hD1
                                      have hP : va_P (dC, dI) vwCl ([wX cI cJ aX hg1 aL aS aW aR aO u8, wL cI cJ aL jL u9, wS cI cJ aS h154 u152, wW cI cJ aW jW aP u11, wP cI cJ aP hg3 u12, wR cI cJ aR hg4 aZ u13, wS cI cJ aZ hg5 u14, wO cI cJ aO hg6 u15, wM cI cJ aM jM u16, wY cI cJ jY u153] : List va_W).flatten H1 := hP.subF [7, 0, 8, 1, 2, 3, 4, 5, 6, 9] rfl
                                      have hD : va_D A ([wX cI cJ aX hg1 aL aS aW aR aO u8, wL cI cJ aL jL u9, wS cI cJ aS h154 u152, wW cI cJ aW jW aP u11, wP cI cJ aP hg3 u12, wR cI cJ aR hg4 aZ u13, wS cI cJ aZ hg5 u14, wO cI cJ aO hg6 u15, wM cI cJ aM jM u16, wY cI cJ jY u153] : List va_W).flatten := hD.subF [7, 0, 8, 1, 2, 3, 4, 5, 6, 9] (by decide) rfl
                                      generalize H1 = H at hP hS ⊢
                                      refine lv_istore (lv' := [(5, .int r155), (0, .ref b), (1, .ref aX), (2, .ref aM), (3, .ref (jY 0)), (4, .int x7)]) hx hb dL_law_441 hl (by decide) rfl (fun ls hl => ?_)
                                      refine lv_aload_n hx hb dL_law_443 rfl (lv_at hl 3 rfl) ?_
                                      refine lv_aload_n hx hb dL_law_444 rfl (lv_at hl 1 rfl) ?_
                                      refine lv_iload hx hb dL_law_445 (lv_at hl 5 rfl) ?_
                                      refine lv_iconst (v := (1 : Int32)) hx hb dL_law_447 (by decide) ?_
                                      refine lv_iadd hx hb dL_law_448 ?_
                                      obtain ⟨g157, hm⟩ := gdi_of hm
                                      refine va_sld hx hb hX hbl hbA hS g157 dL_law_449 ?_
                                      have hPc : va_P (dC, dI) vwCl ([wM cI cJ aM jM u16] : List va_W).flatten _ := hP.subF [8] rfl
                                      have hDc : va_D A ([wM cI cJ aM jM u16] : List va_W).flatten := hD.subF [8] (by decide) rfl
                                      have hFc := va_freeF (fc := ([wM cI cJ aM jM u16] : List va_W)) hD hS hA [8] rfl
                                      obtain ⟨u158o, r159o, e160, hm⟩ := oC2_of hm
                                      refine va_calli (va_runV (As := [.int (xs ((x7 + (1 : Int32))).toNatClampNeg)]) (rest := []) ⟨hx, hb, hml, hown, ht⟩ (c_X7_spread l dC dI cI cJ aM jM H.size u16 (xs ((x7 + (1 : Int32))).toNatClampNeg) (u158o, r159o) e160) (cwV 1 ht (gdV kw_606 kw_604 kw_605 kw_7 kw_603) rfl rfl rfl ⟨rfl, nd_X7_spread⟩ ⟨Nat.le_of_ble_eq_true rfl, Nat.le_of_ble_eq_true rfl⟩) ⟨pcW_blind, va_recv hK hPc (ci := 8) (q0 := 0) rfl rfl, pcW_pre hPc hK hDc hN⟩ rfl rfl hl.1 rfl (lv_room (Nat.le_of_ble_eq_true rfl)) dL_law_450 ⟨Nat.le_trans (cle0 hc1) hmc, Nat.le_trans (cle0 hc2) hms⟩) hS (fun q _ z => hFc q z) hFc (fun r159 uu t H1 locs ht1 hvm hw hB hz1 hk1 hS => ?_)
                                      obtain ⟨u158, rfl⟩ : ∃ z, z = uu := ⟨_, rfl⟩
                                      obtain ⟨hP1, hD1⟩ := hB
                                      rw [ht1] at hP1
                                      obtain ⟨q0, q1⟩ := inj2 hw
                                      subst q0
                                      subst q1
                                      obtain ⟨hP, hD⟩ := va_joinF (fr := ([wX cI cJ aX hg1 aL aS aW aR aO u8, wL cI cJ aL jL u9, wS cI cJ aS h154 u152, wW cI cJ aW jW aP u11, wP cI cJ aP hg3 u12, wR cI cJ aR hg4 aZ u13, wS cI cJ aZ hg5 u14, wO cI cJ aO hg6 u15, wY cI cJ jY u153] : List va_W)) (f1 := ([wM cI cJ aM jM u158] : List va_W)) hP hD [8] [0, 1, 2, 3, 4, 5, 6, 7, 9] rfl rfl (by decide) (by decide) hk1 hFc hP1 hD1
                                      have hP : va_P (dC, dI) vwCl ([wX cI cJ aX hg1 aL aS aW aR aO u8, wL cI cJ aL jL u9, wS cI cJ aS h154 u152, wW cI cJ aW jW aP u11, wP cI cJ aP hg3 u12, wR cI cJ aR hg4 aZ u13, wS cI cJ aZ hg5 u14, wO cI cJ aO hg6 u15, wM cI cJ aM jM u158, wY cI cJ jY u153] : List va_W).flatten H1 := hP.subF [0, 1, 2, 3, 4, 5, 6, 7, 9, 8] rfl
                                      have hD : va_D A ([wX cI cJ aX hg1 aL aS aW aR aO u8, wL cI cJ aL jL u9, wS cI cJ aS h154 u152, wW cI cJ aW jW aP u11, wP cI cJ aP hg3 u12, wR cI cJ aR hg4 aZ u13, wS cI cJ aZ hg5 u14, wO cI cJ aO hg6 u15, wM cI cJ aM jM u158, wY cI cJ jY u153] : List va_W).flatten := hD.subF [0, 1, 2, 3, 4, 5, 6, 7, 9, 8] (by decide) rfl
                                      generalize H1 = H at hP hS ⊢
                                      refine W.cs (Nat.add_zero _) (Nat.add_zero _) ?_
                                      refine lv_istore (lv' := [(6, .int r159), (5, .int r155), (0, .ref b), (1, .ref aX), (2, .ref aM), (3, .ref (jY 0)), (4, .int x7)]) hx hb dL_law_453 hl (by decide) rfl (fun ls hl => ?_)
                                      refine lv_goto (tgt := 645) hx hb dL_law_455 (by decide) ?_
                                      obtain ⟨x161, ex161, hm⟩ := bnd_ex hm
                                      refine lv_iinc (v := x161) (lv' := [(4, .int x161), (6, .int r159), (5, .int r155), (0, .ref b), (1, .ref aX), (2, .ref aM), (3, .ref (jY 0))]) hx hb dL_law_645 hl (k := 6) rfl (by rw [ex161]; exact congrArg _ (by decide)) (by decide) rfl (fun ls hl => ?_)
                                      refine lv_goto (tgt := 33) hx hb dL_law_648 (by decide) ?_
                                      exact ih33 x161 u8 u9 u152 u11 u12 u13 u14 u15 u158 u153 hg1 h154 hg3 hg4 hg5 hg6 _ _ _ _ _ _ _ hm hc1 hc2 hP hD hS (lv_sub hl [3, 4, 5, 6, 0] rfl)
                                    · have hm := ite_f c255 hm
                                      by_cases c256 : x20 = (15 : Int32)
                                      · have hm := ite_t c256 hm
                                        refine lv_tableIn (tgt := 458) hx hb dL_law_49 (by rw [c256]; decide) (by rw [c256]; decide) (by rw [c256]; rfl) (by decide) ?_
                                        refine lv_aload_n hx hb dL_law_458 rfl (lv_at hl 1 rfl) ?_
                                        refine lv_aload_n hx hb dL_law_459 rfl (lv_at hl 0 rfl) ?_
                                        refine lv_iload hx hb dL_law_460 (lv_at hl 4 rfl) ?_
                                        refine lv_iconst (v := (1 : Int32)) hx hb dL_law_462 (by decide) ?_
                                        refine lv_iadd hx hb dL_law_463 ?_
                                        obtain ⟨g162, hm⟩ := gdi_of hm
                                        refine va_sld hx hb hX hbl hbA hS g162 dL_law_464 ?_
                                        refine lv_aload_n hx hb dL_law_465 rfl (lv_at hl 0 rfl) ?_
                                        refine lv_iload hx hb dL_law_466 (lv_at hl 4 rfl) ?_
                                        refine lv_iconst (v := (2 : Int32)) hx hb dL_law_468 (by decide) ?_
                                        refine lv_iadd hx hb dL_law_469 ?_
                                        obtain ⟨g163, hm⟩ := gdi_of hm
                                        refine va_sld hx hb hX hbl hbA hS g163 dL_law_470 ?_
                                        have hPc : va_P (dC, dI) vwCl ([wX cI cJ aX hg1 aL aS aW aR aO u8, wW cI cJ aW jW aP u11, wR cI cJ aR hg4 aZ u13] : List va_W).flatten _ := hP.subF [0, 3, 5] rfl
                                        have hDc : va_D A ([wX cI cJ aX hg1 aL aS aW aR aO u8, wW cI cJ aW jW aP u11, wR cI cJ aR hg4 aZ u13] : List va_W).flatten := hD.subF [0, 3, 5] (by decide) rfl
                                        have hFc := va_freeF (fc := ([wX cI cJ aX hg1 aL aS aW aR aO u8, wW cI cJ aW jW aP u11, wR cI cJ aR hg4 aZ u13] : List va_W)) hD hS hA [0, 3, 5] rfl
                                        obtain ⟨r164o, e165, hm⟩ := oC1_of hm
                                        refine va_calll (va_runV (As := [.int (xs ((x7 + (1 : Int32))).toNatClampNeg), .int (xs ((x7 + (2 : Int32))).toNatClampNeg)]) (rest := []) ⟨hx, hb, hml, hown, ht⟩ (c_X6_state l dC dI cI cJ aX hg1 aW jW aR hg4 aL aS aO aP aZ H.size u8 u11 u13 (xs ((x7 + (1 : Int32))).toNatClampNeg) (xs ((x7 + (2 : Int32))).toNatClampNeg) r164o e165) (cwV 2 ht (gdV kw_610 kw_608 kw_609 kw_161 kw_607) rfl rfl rfl ⟨rfl, nd_X6_state⟩ ⟨Nat.le_of_ble_eq_true rfl, Nat.le_of_ble_eq_true rfl⟩) ⟨pcW_blind, va_recv hK hPc (ci := 7) (q0 := 0) rfl rfl, pcW_pre hPc hK hDc hN⟩ rfl rfl hl.1 rfl (lv_room (Nat.le_of_ble_eq_true rfl)) dL_law_471 ⟨Nat.le_trans (cle0 hc1) hmc, Nat.le_trans (cle0 hc2) hms⟩) hS (fun q _ z => hFc q z) hFc (fun r164 uu t H1 locs ht1 hvm hw hB hz1 hk1 hS => ?_)
                                        obtain ⟨⟩ := uu
                                        obtain ⟨hP1, hD1⟩ := hB
                                        rw [ht1] at hP1
                                        obtain rfl : r164 = r164o := Option.some.inj hw
                                        obtain ⟨hP, hD⟩ := va_joinF (fr := ([wL cI cJ aL jL u9, wS cI cJ aS hg2 u10, wP cI cJ aP hg3 u12, wS cI cJ aZ hg5 u14, wO cI cJ aO hg6 u15, wM cI cJ aM jM u16, wY cI cJ jY u17] : List va_W)) (f1 := ([wX cI cJ aX hg1 aL aS aW aR aO u8, wW cI cJ aW jW aP u11, wR cI cJ aR hg4 aZ u13] : List va_W)) hP hD [0, 3, 5] [1, 2, 4, 6, 7, 8, 9] rfl rfl (by decide) (by decide) hk1 hFc hP1 hD1
                                        have hP : va_P (dC, dI) vwCl ([wX cI cJ aX hg1 aL aS aW aR aO u8, wL cI cJ aL jL u9, wS cI cJ aS hg2 u10, wW cI cJ aW jW aP u11, wP cI cJ aP hg3 u12, wR cI cJ aR hg4 aZ u13, wS cI cJ aZ hg5 u14, wO cI cJ aO hg6 u15, wM cI cJ aM jM u16, wY cI cJ jY u17] : List va_W).flatten H1 := hP.subF [7, 0, 1, 8, 2, 9, 3, 4, 5, 6] rfl
                                        have hD : va_D A ([wX cI cJ aX hg1 aL aS aW aR aO u8, wL cI cJ aL jL u9, wS cI cJ aS hg2 u10, wW cI cJ aW jW aP u11, wP cI cJ aP hg3 u12, wR cI cJ aR hg4 aZ u13, wS cI cJ aZ hg5 u14, wO cI cJ aO hg6 u15, wM cI cJ aM jM u16, wY cI cJ jY u17] : List va_W).flatten := hD.subF [7, 0, 1, 8, 2, 9, 3, 4, 5, 6] (by decide) rfl
                                        generalize H1 = H at hP hS ⊢
                                        refine W.cs (Nat.add_zero _) (Nat.add_zero _) ?_
                                        refine lv_pop2_2 hx hb dL_law_474 rfl ?_
                                        refine lv_aload_n hx hb dL_law_475 rfl (lv_at hl 2 rfl) ?_
                                        refine lv_aload_n hx hb dL_law_476 rfl (lv_at hl 0 rfl) ?_
                                        refine lv_iload hx hb dL_law_477 (lv_at hl 4 rfl) ?_
                                        refine lv_iconst (v := (1 : Int32)) hx hb dL_law_479 (by decide) ?_
                                        refine lv_iadd hx hb dL_law_480 ?_
                                        obtain ⟨g166, hm⟩ := gdi_of hm
                                        refine va_sld hx hb hX hbl hbA hS g166 dL_law_481 ?_
                                        refine lv_aload_n hx hb dL_law_482 rfl (lv_at hl 0 rfl) ?_
                                        refine lv_iload hx hb dL_law_483 (lv_at hl 4 rfl) ?_
                                        refine lv_iconst (v := (2 : Int32)) hx hb dL_law_485 (by decide) ?_
                                        refine lv_iadd hx hb dL_law_486 ?_
                                        obtain ⟨g167, hm⟩ := gdi_of hm
                                        refine va_sld hx hb hX hbl hbA hS g167 dL_law_487 ?_
                                        have hPc : va_P (dC, dI) vwCl ([wM cI cJ aM jM u16] : List va_W).flatten _ := hP.subF [8] rfl
                                        have hDc : va_D A ([wM cI cJ aM jM u16] : List va_W).flatten := hD.subF [8] (by decide) rfl
                                        have hFc := va_freeF (fc := ([wM cI cJ aM jM u16] : List va_W)) hD hS hA [8] rfl
                                        obtain ⟨u168o, r169o, e170, hm⟩ := oC2_of hm
                                        refine va_calll (va_runV (As := [.int (xs ((x7 + (1 : Int32))).toNatClampNeg), .int (xs ((x7 + (2 : Int32))).toNatClampNeg)]) (rest := []) ⟨hx, hb, hml, hown, ht⟩ (c_X7_state l dC dI cI cJ aM jM H.size u16 (xs ((x7 + (1 : Int32))).toNatClampNeg) (xs ((x7 + (2 : Int32))).toNatClampNeg) (u168o, r169o) e170) (cwV 2 ht (gdV kw_614 kw_612 kw_613 kw_7 kw_611) rfl rfl rfl ⟨rfl, nd_X7_state⟩ ⟨Nat.le_of_ble_eq_true rfl, Nat.le_of_ble_eq_true rfl⟩) ⟨pcW_blind, va_recv hK hPc (ci := 8) (q0 := 0) rfl rfl, pcW_pre hPc hK hDc hN⟩ rfl rfl hl.1 rfl (lv_room (Nat.le_of_ble_eq_true rfl)) dL_law_488 ⟨Nat.le_trans (cle0 hc1) hmc, Nat.le_trans (cle0 hc2) hms⟩) hS (fun q _ z => hFc q z) hFc (fun r169 uu t H1 locs ht1 hvm hw hB hz1 hk1 hS => ?_)
                                        obtain ⟨u168, rfl⟩ : ∃ z, z = uu := ⟨_, rfl⟩
                                        obtain ⟨hP1, hD1⟩ := hB
                                        rw [ht1] at hP1
                                        obtain ⟨q0, q1⟩ := inj2 hw
                                        subst q0
                                        subst q1
                                        obtain ⟨hP, hD⟩ := va_joinF (fr := ([wX cI cJ aX hg1 aL aS aW aR aO u8, wL cI cJ aL jL u9, wS cI cJ aS hg2 u10, wW cI cJ aW jW aP u11, wP cI cJ aP hg3 u12, wR cI cJ aR hg4 aZ u13, wS cI cJ aZ hg5 u14, wO cI cJ aO hg6 u15, wY cI cJ jY u17] : List va_W)) (f1 := ([wM cI cJ aM jM u168] : List va_W)) hP hD [8] [0, 1, 2, 3, 4, 5, 6, 7, 9] rfl rfl (by decide) (by decide) hk1 hFc hP1 hD1
                                        have hP : va_P (dC, dI) vwCl ([wX cI cJ aX hg1 aL aS aW aR aO u8, wL cI cJ aL jL u9, wS cI cJ aS hg2 u10, wW cI cJ aW jW aP u11, wP cI cJ aP hg3 u12, wR cI cJ aR hg4 aZ u13, wS cI cJ aZ hg5 u14, wO cI cJ aO hg6 u15, wM cI cJ aM jM u168, wY cI cJ jY u17] : List va_W).flatten H1 := hP.subF [0, 1, 2, 3, 4, 5, 6, 7, 9, 8] rfl
                                        have hD : va_D A ([wX cI cJ aX hg1 aL aS aW aR aO u8, wL cI cJ aL jL u9, wS cI cJ aS hg2 u10, wW cI cJ aW jW aP u11, wP cI cJ aP hg3 u12, wR cI cJ aR hg4 aZ u13, wS cI cJ aZ hg5 u14, wO cI cJ aO hg6 u15, wM cI cJ aM jM u168, wY cI cJ jY u17] : List va_W).flatten := hD.subF [0, 1, 2, 3, 4, 5, 6, 7, 9, 8] (by decide) rfl
                                        generalize H1 = H at hP hS ⊢
                                        refine W.cs (Nat.add_zero _) (Nat.add_zero _) ?_
                                        refine lv_pop2_2 hx hb dL_law_491 rfl ?_
                                        refine lv_goto (tgt := 645) hx hb dL_law_492 (by decide) ?_
                                        obtain ⟨x171, ex171, hm⟩ := bnd_ex hm
                                        refine lv_iinc (v := x171) (lv' := [(4, .int x171), (0, .ref b), (1, .ref aX), (2, .ref aM), (3, .ref (jY 0))]) hx hb dL_law_645 hl (k := 4) rfl (by rw [ex171]; exact congrArg _ (by decide)) (by decide) rfl (fun ls hl => ?_)
                                        refine lv_goto (tgt := 33) hx hb dL_law_648 (by decide) ?_
                                        exact ih33 x171 u8 u9 u10 u11 u12 u13 u14 u15 u168 u17 hg1 hg2 hg3 hg4 hg5 hg6 _ _ _ _ _ _ _ hm hc1 hc2 hP hD hS (lv_sub hl [1, 2, 3, 4, 0] rfl)
                                      · have hm := ite_f c256 hm
                                        by_cases c257 : x20 = (16 : Int32)
                                        · have hm := ite_t c257 hm
                                          refine lv_tableIn (tgt := 495) hx hb dL_law_49 (by rw [c257]; decide) (by rw [c257]; decide) (by rw [c257]; rfl) (by decide) ?_
                                          refine lv_aload_n hx hb dL_law_495 rfl (lv_at hl 1 rfl) ?_
                                          refine lv_aload_n hx hb dL_law_496 rfl (lv_at hl 0 rfl) ?_
                                          refine lv_iload hx hb dL_law_497 (lv_at hl 4 rfl) ?_
                                          refine lv_iconst (v := (1 : Int32)) hx hb dL_law_499 (by decide) ?_
                                          refine lv_iadd hx hb dL_law_500 ?_
                                          obtain ⟨g172, hm⟩ := gdi_of hm
                                          refine va_sld hx hb hX hbl hbA hS g172 dL_law_501 ?_
                                          have hPc : va_P (dC, dI) vwCl ([wX cI cJ aX hg1 aL aS aW aR aO u8, wO cI cJ aO hg6 u15] : List va_W).flatten _ := hP.subF [0, 7] rfl
                                          have hDc : va_D A ([wX cI cJ aX hg1 aL aS aW aR aO u8, wO cI cJ aO hg6 u15] : List va_W).flatten := hD.subF [0, 7] (by decide) rfl
                                          have hFc := va_freeF (fc := ([wX cI cJ aX hg1 aL aS aW aR aO u8, wO cI cJ aO hg6 u15] : List va_W)) hD hS hA [0, 7] rfl
                                          obtain ⟨r173o, e174, hm⟩ := oC1_of hm
                                          refine va_calli (va_runV (As := [.int (xs ((x7 + (1 : Int32))).toNatClampNeg)]) (rest := []) ⟨hx, hb, hml, hown, ht⟩ (c_X6_out l dC dI cI cJ aX hg1 aO hg6 aL aS aW aR H.size u8 u15 (xs ((x7 + (1 : Int32))).toNatClampNeg) r173o e174) (cwV 1 ht (gdV kw_618 kw_616 kw_617 kw_161 kw_615) rfl rfl rfl ⟨rfl, nd_X6_out⟩ ⟨Nat.le_of_ble_eq_true rfl, Nat.le_of_ble_eq_true rfl⟩) ⟨pcW_blind, va_recv hK hPc (ci := 7) (q0 := 0) rfl rfl, pcW_pre hPc hK hDc hN⟩ rfl rfl hl.1 rfl (lv_room (Nat.le_of_ble_eq_true rfl)) dL_law_502 ⟨Nat.le_trans (cle0 hc1) hmc, Nat.le_trans (cle0 hc2) hms⟩) hS (fun q _ z => hFc q z) hFc (fun r173 uu t H1 locs ht1 hvm hw hB hz1 hk1 hS => ?_)
                                          obtain ⟨⟩ := uu
                                          obtain ⟨hP1, hD1⟩ := hB
                                          rw [ht1] at hP1
                                          obtain rfl : r173 = r173o := Option.some.inj hw
                                          obtain ⟨hP, hD⟩ := va_joinF (fr := ([wL cI cJ aL jL u9, wS cI cJ aS hg2 u10, wW cI cJ aW jW aP u11, wP cI cJ aP hg3 u12, wR cI cJ aR hg4 aZ u13, wS cI cJ aZ hg5 u14, wM cI cJ aM jM u16, wY cI cJ jY u17] : List va_W)) (f1 := ([wX cI cJ aX hg1 aL aS aW aR aO u8, wO cI cJ aO hg6 u15] : List va_W)) hP hD [0, 7] [1, 2, 3, 4, 5, 6, 8, 9] rfl rfl (by decide) (by decide) hk1 hFc hP1 hD1
                                          have hP : va_P (dC, dI) vwCl ([wX cI cJ aX hg1 aL aS aW aR aO u8, wL cI cJ aL jL u9, wS cI cJ aS hg2 u10, wW cI cJ aW jW aP u11, wP cI cJ aP hg3 u12, wR cI cJ aR hg4 aZ u13, wS cI cJ aZ hg5 u14, wO cI cJ aO hg6 u15, wM cI cJ aM jM u16, wY cI cJ jY u17] : List va_W).flatten H1 := hP.subF [8, 0, 1, 2, 3, 4, 5, 9, 6, 7] rfl
                                          have hD : va_D A ([wX cI cJ aX hg1 aL aS aW aR aO u8, wL cI cJ aL jL u9, wS cI cJ aS hg2 u10, wW cI cJ aW jW aP u11, wP cI cJ aP hg3 u12, wR cI cJ aR hg4 aZ u13, wS cI cJ aZ hg5 u14, wO cI cJ aO hg6 u15, wM cI cJ aM jM u16, wY cI cJ jY u17] : List va_W).flatten := hD.subF [8, 0, 1, 2, 3, 4, 5, 9, 6, 7] (by decide) rfl
                                          generalize H1 = H at hP hS ⊢
                                          refine W.cs (Nat.add_zero _) (Nat.add_zero _) ?_
                                          refine lv_pop hx hb dL_law_505 rfl ?_
                                          refine lv_aload_n hx hb dL_law_506 rfl (lv_at hl 2 rfl) ?_
                                          refine lv_aload_n hx hb dL_law_507 rfl (lv_at hl 0 rfl) ?_
                                          refine lv_iload hx hb dL_law_508 (lv_at hl 4 rfl) ?_
                                          refine lv_iconst (v := (1 : Int32)) hx hb dL_law_510 (by decide) ?_
                                          refine lv_iadd hx hb dL_law_511 ?_
                                          obtain ⟨g175, hm⟩ := gdi_of hm
                                          refine va_sld hx hb hX hbl hbA hS g175 dL_law_512 ?_
                                          have hPc : va_P (dC, dI) vwCl ([wM cI cJ aM jM u16] : List va_W).flatten _ := hP.subF [8] rfl
                                          have hDc : va_D A ([wM cI cJ aM jM u16] : List va_W).flatten := hD.subF [8] (by decide) rfl
                                          have hFc := va_freeF (fc := ([wM cI cJ aM jM u16] : List va_W)) hD hS hA [8] rfl
                                          obtain ⟨u176o, r177o, e178, hm⟩ := oC2_of hm
                                          refine va_calli (va_runV (As := [.int (xs ((x7 + (1 : Int32))).toNatClampNeg)]) (rest := []) ⟨hx, hb, hml, hown, ht⟩ (c_X7_out l dC dI cI cJ aM jM H.size u16 (xs ((x7 + (1 : Int32))).toNatClampNeg) (u176o, r177o) e178) (cwV 1 ht (gdV kw_622 kw_620 kw_621 kw_7 kw_619) rfl rfl rfl ⟨rfl, nd_X7_out⟩ ⟨Nat.le_of_ble_eq_true rfl, Nat.le_of_ble_eq_true rfl⟩) ⟨pcW_blind, va_recv hK hPc (ci := 8) (q0 := 0) rfl rfl, pcW_pre hPc hK hDc hN⟩ rfl rfl hl.1 rfl (lv_room (Nat.le_of_ble_eq_true rfl)) dL_law_513 ⟨Nat.le_trans (cle0 hc1) hmc, Nat.le_trans (cle0 hc2) hms⟩) hS (fun q _ z => hFc q z) hFc (fun r177 uu t H1 locs ht1 hvm hw hB hz1 hk1 hS => ?_)
                                          obtain ⟨u176, rfl⟩ : ∃ z, z = uu := ⟨_, rfl⟩
                                          obtain ⟨hP1, hD1⟩ := hB
                                          rw [ht1] at hP1
                                          obtain ⟨q0, q1⟩ := inj2 hw
                                          subst q0
                                          subst q1
                                          obtain ⟨hP, hD⟩ := va_joinF (fr := ([wX cI cJ aX hg1 aL aS aW aR aO u8, wL cI cJ aL jL u9, wS cI cJ aS hg2 u10, wW cI cJ aW jW aP u11, wP cI cJ aP hg3 u12, wR cI cJ aR hg4 aZ u13, wS cI cJ aZ hg5 u14, wO cI cJ aO hg6 u15, wY cI cJ jY u17] : List va_W)) (f1 := ([wM cI cJ aM jM u176] : List va_W)) hP hD [8] [0, 1, 2, 3, 4, 5, 6, 7, 9] rfl rfl (by decide) (by decide) hk1 hFc hP1 hD1
                                          have hP : va_P (dC, dI) vwCl ([wX cI cJ aX hg1 aL aS aW aR aO u8, wL cI cJ aL jL u9, wS cI cJ aS hg2 u10, wW cI cJ aW jW aP u11, wP cI cJ aP hg3 u12, wR cI cJ aR hg4 aZ u13, wS cI cJ aZ hg5 u14, wO cI cJ aO hg6 u15, wM cI cJ aM jM u176, wY cI cJ jY u17] : List va_W).flatten H1 := hP.subF [0, 1, 2, 3, 4, 5, 6, 7, 9, 8] rfl
                                          have hD : va_D A ([wX cI cJ aX hg1 aL aS aW aR aO u8, wL cI cJ aL jL u9, wS cI cJ aS hg2 u10, wW cI cJ aW jW aP u11, wP cI cJ aP hg3 u12, wR cI cJ aR hg4 aZ u13, wS cI cJ aZ hg5 u14, wO cI cJ aO hg6 u15, wM cI cJ aM jM u176, wY cI cJ jY u17] : List va_W).flatten := hD.subF [0, 1, 2, 3, 4, 5, 6, 7, 9, 8] (by decide) rfl
                                          generalize H1 = H at hP hS ⊢
                                          refine W.cs (Nat.add_zero _) (Nat.add_zero _) ?_
                                          refine lv_pop hx hb dL_law_516 rfl ?_
                                          refine lv_goto (tgt := 645) hx hb dL_law_517 (by decide) ?_
                                          obtain ⟨x179, ex179, hm⟩ := bnd_ex hm
                                          refine lv_iinc (v := x179) (lv' := [(4, .int x179), (0, .ref b), (1, .ref aX), (2, .ref aM), (3, .ref (jY 0))]) hx hb dL_law_645 hl (k := 4) rfl (by rw [ex179]; exact congrArg _ (by decide)) (by decide) rfl (fun ls hl => ?_)
                                          refine lv_goto (tgt := 33) hx hb dL_law_648 (by decide) ?_
                                          exact ih33 x179 u8 u9 u10 u11 u12 u13 u14 u15 u176 u17 hg1 hg2 hg3 hg4 hg5 hg6 _ _ _ _ _ _ _ hm hc1 hc2 hP hD hS (lv_sub hl [1, 2, 3, 4, 0] rfl)
                                        · have hm := ite_f c257 hm
                                          by_cases c258 : x20 = (17 : Int32)
                                          · have hm := ite_t c258 hm
                                            refine lv_tableIn (tgt := 520) hx hb dL_law_49 (by rw [c258]; decide) (by rw [c258]; decide) (by rw [c258]; rfl) (by decide) ?_
                                            refine lv_aload_n hx hb dL_law_520 rfl (lv_at hl 1 rfl) ?_
                                            refine lv_aload_n hx hb dL_law_521 rfl (lv_at hl 0 rfl) ?_
                                            refine lv_iload hx hb dL_law_522 (lv_at hl 4 rfl) ?_
                                            refine lv_iconst (v := (1 : Int32)) hx hb dL_law_524 (by decide) ?_
                                            refine lv_iadd hx hb dL_law_525 ?_
                                            obtain ⟨g180, hm⟩ := gdi_of hm
                                            refine va_sld hx hb hX hbl hbA hS g180 dL_law_526 ?_
                                            refine lv_aload_n hx hb dL_law_527 rfl (lv_at hl 0 rfl) ?_
                                            refine lv_iload hx hb dL_law_528 (lv_at hl 4 rfl) ?_
                                            refine lv_iconst (v := (2 : Int32)) hx hb dL_law_530 (by decide) ?_
                                            refine lv_iadd hx hb dL_law_531 ?_
                                            obtain ⟨g181, hm⟩ := gdi_of hm
                                            refine va_sld hx hb hX hbl hbA hS g181 dL_law_532 ?_
                                            have hPc : va_P (dC, dI) vwCl ([wX cI cJ aX hg1 aL aS aW aR aO u8, wO cI cJ aO hg6 u15] : List va_W).flatten _ := hP.subF [0, 7] rfl
                                            have hDc : va_D A ([wX cI cJ aX hg1 aL aS aW aR aO u8, wO cI cJ aO hg6 u15] : List va_W).flatten := hD.subF [0, 7] (by decide) rfl
                                            have hFc := va_freeF (fc := ([wX cI cJ aX hg1 aL aS aW aR aO u8, wO cI cJ aO hg6 u15] : List va_W)) hD hS hA [0, 7] rfl
                                            obtain ⟨u182o, r183o, e184, hm⟩ := oC2_of hm
                                            refine va_calli (va_runV (As := [.int (xs ((x7 + (1 : Int32))).toNatClampNeg), .int (xs ((x7 + (2 : Int32))).toNatClampNeg)]) (rest := []) ⟨hx, hb, hml, hown, ht⟩ (c_X6_spoil l dC dI cI cJ aX hg1 aO hg6 aL aS aW aR H.size u8 u15 (xs ((x7 + (1 : Int32))).toNatClampNeg) (xs ((x7 + (2 : Int32))).toNatClampNeg) (u182o, r183o) e184) (cwV 2 ht (gdV kw_626 kw_624 kw_625 kw_161 kw_623) rfl rfl rfl ⟨rfl, nd_X6_spoil⟩ ⟨Nat.le_of_ble_eq_true rfl, Nat.le_of_ble_eq_true rfl⟩) ⟨pcW_blind, va_recv hK hPc (ci := 7) (q0 := 0) rfl rfl, pcW_pre hPc hK hDc hN⟩ rfl rfl hl.1 rfl (lv_room (Nat.le_of_ble_eq_true rfl)) dL_law_533 ⟨Nat.le_trans (cle0 hc1) hmc, Nat.le_trans (cle0 hc2) hms⟩) hS (fun q _ z => hFc q z) hFc (fun r183 uu t H1 locs ht1 hvm hw hB hz1 hk1 hS => ?_)
                                            obtain ⟨u182, rfl⟩ : ∃ z, z = uu := ⟨_, rfl⟩
                                            obtain ⟨hP1, hD1⟩ := hB
                                            rw [ht1] at hP1
                                            obtain ⟨q0, q1⟩ := inj2 hw
                                            subst q0
                                            subst q1
                                            obtain ⟨hP, hD⟩ := va_joinF (fr := ([wL cI cJ aL jL u9, wS cI cJ aS hg2 u10, wW cI cJ aW jW aP u11, wP cI cJ aP hg3 u12, wR cI cJ aR hg4 aZ u13, wS cI cJ aZ hg5 u14, wM cI cJ aM jM u16, wY cI cJ jY u17] : List va_W)) (f1 := ([wX cI cJ aX hg1 aL aS aW aR aO u8, wO cI cJ aO hg6 u182] : List va_W)) hP hD [0, 7] [1, 2, 3, 4, 5, 6, 8, 9] rfl rfl (by decide) (by decide) hk1 hFc hP1 hD1
                                            have hP : va_P (dC, dI) vwCl ([wX cI cJ aX hg1 aL aS aW aR aO u8, wL cI cJ aL jL u9, wS cI cJ aS hg2 u10, wW cI cJ aW jW aP u11, wP cI cJ aP hg3 u12, wR cI cJ aR hg4 aZ u13, wS cI cJ aZ hg5 u14, wO cI cJ aO hg6 u182, wM cI cJ aM jM u16, wY cI cJ jY u17] : List va_W).flatten H1 := hP.subF [8, 0, 1, 2, 3, 4, 5, 9, 6, 7] rfl
                                            have hD : va_D A ([wX cI cJ aX hg1 aL aS aW aR aO u8, wL cI cJ aL jL u9, wS cI cJ aS hg2 u10, wW cI cJ aW jW aP u11, wP cI cJ aP hg3 u12, wR cI cJ aR hg4 aZ u13, wS cI cJ aZ hg5 u14, wO cI cJ aO hg6 u182, wM cI cJ aM jM u16, wY cI cJ jY u17] : List va_W).flatten := hD.subF [8, 0, 1, 2, 3, 4, 5, 9, 6, 7] (by decide) rfl
                                            generalize H1 = H at hP hS ⊢
                                            refine W.cs (Nat.add_zero _) (Nat.add_zero _) ?_
                                            refine lv_pop hx hb dL_law_536 rfl ?_
                                            refine lv_aload_n hx hb dL_law_537 rfl (lv_at hl 2 rfl) ?_
                                            refine lv_aload_n hx hb dL_law_538 rfl (lv_at hl 0 rfl) ?_
                                            refine lv_iload hx hb dL_law_539 (lv_at hl 4 rfl) ?_
                                            refine lv_iconst (v := (1 : Int32)) hx hb dL_law_541 (by decide) ?_
                                            refine lv_iadd hx hb dL_law_542 ?_
                                            obtain ⟨g185, hm⟩ := gdi_of hm
                                            refine va_sld hx hb hX hbl hbA hS g185 dL_law_543 ?_
                                            refine lv_aload_n hx hb dL_law_544 rfl (lv_at hl 0 rfl) ?_
                                            refine lv_iload hx hb dL_law_545 (lv_at hl 4 rfl) ?_
                                            refine lv_iconst (v := (2 : Int32)) hx hb dL_law_547 (by decide) ?_
                                            refine lv_iadd hx hb dL_law_548 ?_
                                            obtain ⟨g186, hm⟩ := gdi_of hm
                                            refine va_sld hx hb hX hbl hbA hS g186 dL_law_549 ?_
                                            have hPc : va_P (dC, dI) vwCl ([wM cI cJ aM jM u16] : List va_W).flatten _ := hP.subF [8] rfl
                                            have hDc : va_D A ([wM cI cJ aM jM u16] : List va_W).flatten := hD.subF [8] (by decide) rfl
                                            have hFc := va_freeF (fc := ([wM cI cJ aM jM u16] : List va_W)) hD hS hA [8] rfl
                                            obtain ⟨u187o, r188o, e189, hm⟩ := oC2_of hm
                                            refine va_calli (va_runV (As := [.int (xs ((x7 + (1 : Int32))).toNatClampNeg), .int (xs ((x7 + (2 : Int32))).toNatClampNeg)]) (rest := []) ⟨hx, hb, hml, hown, ht⟩ (c_X7_spoil l dC dI cI cJ aM jM H.size u16 (xs ((x7 + (1 : Int32))).toNatClampNeg) (xs ((x7 + (2 : Int32))).toNatClampNeg) (u187o, r188o) e189) (cwV 2 ht (gdV kw_630 kw_628 kw_629 kw_7 kw_627) rfl rfl rfl ⟨rfl, nd_X7_spoil⟩ ⟨Nat.le_of_ble_eq_true rfl, Nat.le_of_ble_eq_true rfl⟩) ⟨pcW_blind, va_recv hK hPc (ci := 8) (q0 := 0) rfl rfl, pcW_pre hPc hK hDc hN⟩ rfl rfl hl.1 rfl (lv_room (Nat.le_of_ble_eq_true rfl)) dL_law_550 ⟨Nat.le_trans (cle0 hc1) hmc, Nat.le_trans (cle0 hc2) hms⟩) hS (fun q _ z => hFc q z) hFc (fun r188 uu t H1 locs ht1 hvm hw hB hz1 hk1 hS => ?_)
                                            obtain ⟨u187, rfl⟩ : ∃ z, z = uu := ⟨_, rfl⟩
                                            obtain ⟨hP1, hD1⟩ := hB
                                            rw [ht1] at hP1
                                            obtain ⟨q0, q1⟩ := inj2 hw
                                            subst q0
                                            subst q1
                                            obtain ⟨hP, hD⟩ := va_joinF (fr := ([wX cI cJ aX hg1 aL aS aW aR aO u8, wL cI cJ aL jL u9, wS cI cJ aS hg2 u10, wW cI cJ aW jW aP u11, wP cI cJ aP hg3 u12, wR cI cJ aR hg4 aZ u13, wS cI cJ aZ hg5 u14, wO cI cJ aO hg6 u182, wY cI cJ jY u17] : List va_W)) (f1 := ([wM cI cJ aM jM u187] : List va_W)) hP hD [8] [0, 1, 2, 3, 4, 5, 6, 7, 9] rfl rfl (by decide) (by decide) hk1 hFc hP1 hD1
                                            have hP : va_P (dC, dI) vwCl ([wX cI cJ aX hg1 aL aS aW aR aO u8, wL cI cJ aL jL u9, wS cI cJ aS hg2 u10, wW cI cJ aW jW aP u11, wP cI cJ aP hg3 u12, wR cI cJ aR hg4 aZ u13, wS cI cJ aZ hg5 u14, wO cI cJ aO hg6 u182, wM cI cJ aM jM u187, wY cI cJ jY u17] : List va_W).flatten H1 := hP.subF [0, 1, 2, 3, 4, 5, 6, 7, 9, 8] rfl
                                            have hD : va_D A ([wX cI cJ aX hg1 aL aS aW aR aO u8, wL cI cJ aL jL u9, wS cI cJ aS hg2 u10, wW cI cJ aW jW aP u11, wP cI cJ aP hg3 u12, wR cI cJ aR hg4 aZ u13, wS cI cJ aZ hg5 u14, wO cI cJ aO hg6 u182, wM cI cJ aM jM u187, wY cI cJ jY u17] : List va_W).flatten := hD.subF [0, 1, 2, 3, 4, 5, 6, 7, 9, 8] (by decide) rfl
                                            generalize H1 = H at hP hS ⊢
                                            refine W.cs (Nat.add_zero _) (Nat.add_zero _) ?_
                                            refine lv_pop hx hb dL_law_553 rfl ?_
                                            refine lv_goto (tgt := 645) hx hb dL_law_554 (by decide) ?_
                                            obtain ⟨x190, ex190, hm⟩ := bnd_ex hm
                                            refine lv_iinc (v := x190) (lv' := [(4, .int x190), (0, .ref b), (1, .ref aX), (2, .ref aM), (3, .ref (jY 0))]) hx hb dL_law_645 hl (k := 4) rfl (by rw [ex190]; exact congrArg _ (by decide)) (by decide) rfl (fun ls hl => ?_)
                                            refine lv_goto (tgt := 33) hx hb dL_law_648 (by decide) ?_
                                            exact ih33 x190 u8 u9 u10 u11 u12 u13 u14 u182 u187 u17 hg1 hg2 hg3 hg4 hg5 hg6 _ _ _ _ _ _ _ hm hc1 hc2 hP hD hS (lv_sub hl [1, 2, 3, 4, 0] rfl)
                                          · have hm := ite_f c258 hm
                                            by_cases c259 : x20 = (18 : Int32)
                                            · have hm := ite_t c259 hm
                                              refine lv_tableIn (tgt := 557) hx hb dL_law_49 (by rw [c259]; decide) (by rw [c259]; decide) (by rw [c259]; rfl) (by decide) ?_
                                              refine lv_aload_n hx hb dL_law_557 rfl (lv_at hl 1 rfl) ?_
                                              refine lv_aload_n hx hb dL_law_558 rfl (lv_at hl 0 rfl) ?_
                                              refine lv_iload hx hb dL_law_559 (lv_at hl 4 rfl) ?_
                                              refine lv_iconst (v := (1 : Int32)) hx hb dL_law_561 (by decide) ?_
                                              refine lv_iadd hx hb dL_law_562 ?_
                                              obtain ⟨g191, hm⟩ := gdi_of hm
                                              refine va_sld hx hb hX hbl hbA hS g191 dL_law_563 ?_
                                              have hPc : va_P (dC, dI) vwCl ([wX cI cJ aX hg1 aL aS aW aR aO u8, wO cI cJ aO hg6 u15] : List va_W).flatten _ := hP.subF [0, 7] rfl
                                              have hDc : va_D A ([wX cI cJ aX hg1 aL aS aW aR aO u8, wO cI cJ aO hg6 u15] : List va_W).flatten := hD.subF [0, 7] (by decide) rfl
                                              have hFc := va_freeF (fc := ([wX cI cJ aX hg1 aL aS aW aR aO u8, wO cI cJ aO hg6 u15] : List va_W)) hD hS hA [0, 7] rfl
                                              obtain ⟨u192o, r193o, e194, hm⟩ := oC2_of hm
                                              refine va_calli (va_runV (As := [.int (xs ((x7 + (1 : Int32))).toNatClampNeg)]) (rest := []) ⟨hx, hb, hml, hown, ht⟩ (c_X6_cut l dC dI cI cJ aX hg1 aO hg6 aL aS aW aR H.size u8 u15 (xs ((x7 + (1 : Int32))).toNatClampNeg) (u192o, r193o) e194) (cwV 1 ht (gdV kw_634 kw_632 kw_633 kw_161 kw_631) rfl rfl rfl ⟨rfl, nd_X6_cut⟩ ⟨Nat.le_of_ble_eq_true rfl, Nat.le_of_ble_eq_true rfl⟩) ⟨pcW_blind, va_recv hK hPc (ci := 7) (q0 := 0) rfl rfl, pcW_pre hPc hK hDc hN⟩ rfl rfl hl.1 rfl (lv_room (Nat.le_of_ble_eq_true rfl)) dL_law_564 ⟨Nat.le_trans (cle0 hc1) hmc, Nat.le_trans (cle0 hc2) hms⟩) hS (fun q _ z => hFc q z) hFc (fun r193 uu t H1 locs ht1 hvm hw hB hz1 hk1 hS => ?_)
                                              obtain ⟨u192, rfl⟩ : ∃ z, z = uu := ⟨_, rfl⟩
                                              obtain ⟨hP1, hD1⟩ := hB
                                              rw [ht1] at hP1
                                              obtain ⟨q0, q1⟩ := inj2 hw
                                              subst q0
                                              subst q1
                                              obtain ⟨hP, hD⟩ := va_joinF (fr := ([wL cI cJ aL jL u9, wS cI cJ aS hg2 u10, wW cI cJ aW jW aP u11, wP cI cJ aP hg3 u12, wR cI cJ aR hg4 aZ u13, wS cI cJ aZ hg5 u14, wM cI cJ aM jM u16, wY cI cJ jY u17] : List va_W)) (f1 := ([wX cI cJ aX hg1 aL aS aW aR aO u8, wO cI cJ aO hg6 u192] : List va_W)) hP hD [0, 7] [1, 2, 3, 4, 5, 6, 8, 9] rfl rfl (by decide) (by decide) hk1 hFc hP1 hD1
                                              have hP : va_P (dC, dI) vwCl ([wX cI cJ aX hg1 aL aS aW aR aO u8, wL cI cJ aL jL u9, wS cI cJ aS hg2 u10, wW cI cJ aW jW aP u11, wP cI cJ aP hg3 u12, wR cI cJ aR hg4 aZ u13, wS cI cJ aZ hg5 u14, wO cI cJ aO hg6 u192, wM cI cJ aM jM u16, wY cI cJ jY u17] : List va_W).flatten H1 := hP.subF [8, 0, 1, 2, 3, 4, 5, 9, 6, 7] rfl
                                              have hD : va_D A ([wX cI cJ aX hg1 aL aS aW aR aO u8, wL cI cJ aL jL u9, wS cI cJ aS hg2 u10, wW cI cJ aW jW aP u11, wP cI cJ aP hg3 u12, wR cI cJ aR hg4 aZ u13, wS cI cJ aZ hg5 u14, wO cI cJ aO hg6 u192, wM cI cJ aM jM u16, wY cI cJ jY u17] : List va_W).flatten := hD.subF [8, 0, 1, 2, 3, 4, 5, 9, 6, 7] (by decide) rfl
                                              generalize H1 = H at hP hS ⊢
                                              refine W.cs (Nat.add_zero _) (Nat.add_zero _) ?_
                                              refine lv_pop hx hb dL_law_567 rfl ?_
                                              refine lv_aload_n hx hb dL_law_568 rfl (lv_at hl 2 rfl) ?_
                                              refine lv_aload_n hx hb dL_law_569 rfl (lv_at hl 0 rfl) ?_
                                              refine lv_iload hx hb dL_law_570 (lv_at hl 4 rfl) ?_
                                              refine lv_iconst (v := (1 : Int32)) hx hb dL_law_572 (by decide) ?_
                                              refine lv_iadd hx hb dL_law_573 ?_
                                              obtain ⟨g195, hm⟩ := gdi_of hm
                                              refine va_sld hx hb hX hbl hbA hS g195 dL_law_574 ?_
                                              have hPc : va_P (dC, dI) vwCl ([wM cI cJ aM jM u16] : List va_W).flatten _ := hP.subF [8] rfl
                                              have hDc : va_D A ([wM cI cJ aM jM u16] : List va_W).flatten := hD.subF [8] (by decide) rfl
                                              have hFc := va_freeF (fc := ([wM cI cJ aM jM u16] : List va_W)) hD hS hA [8] rfl
                                              obtain ⟨u196o, r197o, e198, hm⟩ := oC2_of hm
                                              refine va_calli (va_runV (As := [.int (xs ((x7 + (1 : Int32))).toNatClampNeg)]) (rest := []) ⟨hx, hb, hml, hown, ht⟩ (c_X7_cut l dC dI cI cJ aM jM H.size u16 (xs ((x7 + (1 : Int32))).toNatClampNeg) (u196o, r197o) e198) (cwV 1 ht (gdV kw_638 kw_636 kw_637 kw_7 kw_635) rfl rfl rfl ⟨rfl, nd_X7_cut⟩ ⟨Nat.le_of_ble_eq_true rfl, Nat.le_of_ble_eq_true rfl⟩) ⟨pcW_blind, va_recv hK hPc (ci := 8) (q0 := 0) rfl rfl, pcW_pre hPc hK hDc hN⟩ rfl rfl hl.1 rfl (lv_room (Nat.le_of_ble_eq_true rfl)) dL_law_575 ⟨Nat.le_trans (cle0 hc1) hmc, Nat.le_trans (cle0 hc2) hms⟩) hS (fun q _ z => hFc q z) hFc (fun r197 uu t H1 locs ht1 hvm hw hB hz1 hk1 hS => ?_)
                                              obtain ⟨u196, rfl⟩ : ∃ z, z = uu := ⟨_, rfl⟩
                                              obtain ⟨hP1, hD1⟩ := hB
                                              rw [ht1] at hP1
                                              obtain ⟨q0, q1⟩ := inj2 hw
                                              subst q0
                                              subst q1
                                              obtain ⟨hP, hD⟩ := va_joinF (fr := ([wX cI cJ aX hg1 aL aS aW aR aO u8, wL cI cJ aL jL u9, wS cI cJ aS hg2 u10, wW cI cJ aW jW aP u11, wP cI cJ aP hg3 u12, wR cI cJ aR hg4 aZ u13, wS cI cJ aZ hg5 u14, wO cI cJ aO hg6 u192, wY cI cJ jY u17] : List va_W)) (f1 := ([wM cI cJ aM jM u196] : List va_W)) hP hD [8] [0, 1, 2, 3, 4, 5, 6, 7, 9] rfl rfl (by decide) (by decide) hk1 hFc hP1 hD1
                                              have hP : va_P (dC, dI) vwCl ([wX cI cJ aX hg1 aL aS aW aR aO u8, wL cI cJ aL jL u9, wS cI cJ aS hg2 u10, wW cI cJ aW jW aP u11, wP cI cJ aP hg3 u12, wR cI cJ aR hg4 aZ u13, wS cI cJ aZ hg5 u14, wO cI cJ aO hg6 u192, wM cI cJ aM jM u196, wY cI cJ jY u17] : List va_W).flatten H1 := hP.subF [0, 1, 2, 3, 4, 5, 6, 7, 9, 8] rfl
                                              have hD : va_D A ([wX cI cJ aX hg1 aL aS aW aR aO u8, wL cI cJ aL jL u9, wS cI cJ aS hg2 u10, wW cI cJ aW jW aP u11, wP cI cJ aP hg3 u12, wR cI cJ aR hg4 aZ u13, wS cI cJ aZ hg5 u14, wO cI cJ aO hg6 u192, wM cI cJ aM jM u196, wY cI cJ jY u17] : List va_W).flatten := hD.subF [0, 1, 2, 3, 4, 5, 6, 7, 9, 8] (by decide) rfl
                                              generalize H1 = H at hP hS ⊢
                                              refine W.cs (Nat.add_zero _) (Nat.add_zero _) ?_
                                              refine lv_pop hx hb dL_law_578 rfl ?_
                                              refine lv_goto (tgt := 645) hx hb dL_law_579 (by decide) ?_
                                              obtain ⟨x199, ex199, hm⟩ := bnd_ex hm
                                              refine lv_iinc (v := x199) (lv' := [(4, .int x199), (0, .ref b), (1, .ref aX), (2, .ref aM), (3, .ref (jY 0))]) hx hb dL_law_645 hl (k := 4) rfl (by rw [ex199]; exact congrArg _ (by decide)) (by decide) rfl (fun ls hl => ?_)
                                              refine lv_goto (tgt := 33) hx hb dL_law_648 (by decide) ?_
                                              exact ih33 x199 u8 u9 u10 u11 u12 u13 u14 u192 u196 u17 hg1 hg2 hg3 hg4 hg5 hg6 _ _ _ _ _ _ _ hm hc1 hc2 hP hD hS (lv_sub hl [1, 2, 3, 4, 0] rfl)
                                            · have hm := ite_f c259 hm
                                              by_cases c260 : x20 = (19 : Int32)
                                              · have hm := ite_t c260 hm
                                                refine lv_tableIn (tgt := 582) hx hb dL_law_49 (by rw [c260]; decide) (by rw [c260]; decide) (by rw [c260]; rfl) (by decide) ?_
                                                refine lv_aload_n hx hb dL_law_582 rfl (lv_at hl 1 rfl) ?_
                                                refine lv_aload_n hx hb dL_law_583 rfl (lv_at hl 0 rfl) ?_
                                                refine lv_iload hx hb dL_law_584 (lv_at hl 4 rfl) ?_
                                                refine lv_iconst (v := (1 : Int32)) hx hb dL_law_586 (by decide) ?_
                                                refine lv_iadd hx hb dL_law_587 ?_
                                                obtain ⟨g200, hm⟩ := gdi_of hm
                                                refine va_sld hx hb hX hbl hbA hS g200 dL_law_588 ?_
                                                have hPc : va_P (dC, dI) vwCl ([wX cI cJ aX hg1 aL aS aW aR aO u8, wO cI cJ aO hg6 u15] : List va_W).flatten _ := hP.subF [0, 7] rfl
                                                have hDc : va_D A ([wX cI cJ aX hg1 aL aS aW aR aO u8, wO cI cJ aO hg6 u15] : List va_W).flatten := hD.subF [0, 7] (by decide) rfl
                                                have hFc := va_freeF (fc := ([wX cI cJ aX hg1 aL aS aW aR aO u8, wO cI cJ aO hg6 u15] : List va_W)) hD hS hA [0, 7] rfl
                                                obtain ⟨u201o, r203o, kc205, ks205, e204, hm⟩ := oA2_of hm
                                                obtain ⟨kcq206, ksq206, hm, hkcq206, hksq206⟩ := addc_of hm
                                                refine va_calli (va_runV (As := [.int (xs ((x7 + (1 : Int32))).toNatClampNeg)]) (rest := []) ⟨hx, hb, hml, hown, ht⟩ (c_X6_octet l dC dI cI cJ aX hg1 aO hg6 aL aS aW aR H.size u8 u15 (xs ((x7 + (1 : Int32))).toNatClampNeg) (u201o, r203o) kc205 ks205 e204) (cwV 1 ht (gdV kw_642 kw_640 kw_641 kw_161 kw_639) rfl rfl rfl ⟨rfl, nd_X6_octet⟩ ⟨Nat.le_of_ble_eq_true rfl, Nat.le_of_ble_eq_true rfl⟩) ⟨pcW_blind, va_recv hK hPc (ci := 7) (q0 := 0) rfl rfl, pcW_pre hPc hK hDc hN⟩ rfl rfl hl.1 rfl (lv_room (Nat.le_of_ble_eq_true rfl)) dL_law_589 ⟨Nat.le_trans (cle hc1 hkcq206) hmc, Nat.le_trans (cle hc2 hksq206) hms⟩) hS (fun q _ z => hFc q z) hFc (fun r203 uu t H1 locs ht1 hvm hw hB hz1 hk1 hS => ?_)
                                                obtain ⟨u201, rfl⟩ : ∃ z, z = uu := ⟨_, rfl⟩
                                                obtain ⟨h202, hP1, hD1⟩ := hB
                                                rw [ht1] at hP1
                                                obtain ⟨q0, q1⟩ := inj2 hw
                                                subst q0
                                                subst q1
                                                obtain ⟨hP, hD⟩ := va_joinF (fr := ([wL cI cJ aL jL u9, wS cI cJ aS hg2 u10, wW cI cJ aW jW aP u11, wP cI cJ aP hg3 u12, wR cI cJ aR hg4 aZ u13, wS cI cJ aZ hg5 u14, wM cI cJ aM jM u16, wY cI cJ jY u17] : List va_W)) (f1 := ([wX cI cJ aX hg1 aL aS aW aR aO u8, wO cI cJ aO h202 u201] : List va_W)) hP hD [0, 7] [1, 2, 3, 4, 5, 6, 8, 9] rfl rfl (by decide) (by decide) hk1 hFc hP1 hD1
                                                have hP : va_P (dC, dI) vwCl ([wX cI cJ aX hg1 aL aS aW aR aO u8, wL cI cJ aL jL u9, wS cI cJ aS hg2 u10, wW cI cJ aW jW aP u11, wP cI cJ aP hg3 u12, wR cI cJ aR hg4 aZ u13, wS cI cJ aZ hg5 u14, wO cI cJ aO h202 u201, wM cI cJ aM jM u16, wY cI cJ jY u17] : List va_W).flatten H1 := hP.subF [8, 0, 1, 2, 3, 4, 5, 9, 6, 7] rfl
                                                have hD : va_D A ([wX cI cJ aX hg1 aL aS aW aR aO u8, wL cI cJ aL jL u9, wS cI cJ aS hg2 u10, wW cI cJ aW jW aP u11, wP cI cJ aP hg3 u12, wR cI cJ aR hg4 aZ u13, wS cI cJ aZ hg5 u14, wO cI cJ aO h202 u201, wM cI cJ aM jM u16, wY cI cJ jY u17] : List va_W).flatten := hD.subF [8, 0, 1, 2, 3, 4, 5, 9, 6, 7] (by decide) rfl
                                                generalize H1 = H at hP hS ⊢
                                                have hc1 := cadd hc1 hkcq206
                                                have hc2 := cadd hc2 hksq206
                                                refine lv_pop hx hb dL_law_592 rfl ?_
                                                refine lv_aload_n hx hb dL_law_593 rfl (lv_at hl 2 rfl) ?_
                                                refine lv_aload_n hx hb dL_law_594 rfl (lv_at hl 0 rfl) ?_
                                                refine lv_iload hx hb dL_law_595 (lv_at hl 4 rfl) ?_
                                                refine lv_iconst (v := (1 : Int32)) hx hb dL_law_597 (by decide) ?_
                                                refine lv_iadd hx hb dL_law_598 ?_
                                                obtain ⟨g207, hm⟩ := gdi_of hm
                                                refine va_sld hx hb hX hbl hbA hS g207 dL_law_599 ?_
                                                have hPc : va_P (dC, dI) vwCl ([wM cI cJ aM jM u16] : List va_W).flatten _ := hP.subF [8] rfl
                                                have hDc : va_D A ([wM cI cJ aM jM u16] : List va_W).flatten := hD.subF [8] (by decide) rfl
                                                have hFc := va_freeF (fc := ([wM cI cJ aM jM u16] : List va_W)) hD hS hA [8] rfl
                                                obtain ⟨u208o, r209o, e210, hm⟩ := oC2_of hm
                                                refine va_calli (va_runV (As := [.int (xs ((x7 + (1 : Int32))).toNatClampNeg)]) (rest := []) ⟨hx, hb, hml, hown, ht⟩ (c_X7_octet l dC dI cI cJ aM jM H.size u16 (xs ((x7 + (1 : Int32))).toNatClampNeg) (u208o, r209o) e210) (cwV 1 ht (gdV kw_646 kw_644 kw_645 kw_7 kw_643) rfl rfl rfl ⟨rfl, nd_X7_octet⟩ ⟨Nat.le_of_ble_eq_true rfl, Nat.le_of_ble_eq_true rfl⟩) ⟨pcW_blind, va_recv hK hPc (ci := 8) (q0 := 0) rfl rfl, pcW_pre hPc hK hDc hN⟩ rfl rfl hl.1 rfl (lv_room (Nat.le_of_ble_eq_true rfl)) dL_law_600 ⟨Nat.le_trans (cle0 hc1) hmc, Nat.le_trans (cle0 hc2) hms⟩) hS (fun q _ z => hFc q z) hFc (fun r209 uu t H1 locs ht1 hvm hw hB hz1 hk1 hS => ?_)
                                                obtain ⟨u208, rfl⟩ : ∃ z, z = uu := ⟨_, rfl⟩
                                                obtain ⟨hP1, hD1⟩ := hB
                                                rw [ht1] at hP1
                                                obtain ⟨q0, q1⟩ := inj2 hw
                                                subst q0
                                                subst q1
                                                obtain ⟨hP, hD⟩ := va_joinF (fr := ([wX cI cJ aX hg1 aL aS aW aR aO u8, wL cI cJ aL jL u9, wS cI cJ aS hg2 u10, wW cI cJ aW jW aP u11, wP cI cJ aP hg3 u12, wR cI cJ aR hg4 aZ u13, wS cI cJ aZ hg5 u14, wO cI cJ aO h202 u201, wY cI cJ jY u17] : List va_W)) (f1 := ([wM cI cJ aM jM u208] : List va_W)) hP hD [8] [0, 1, 2, 3, 4, 5, 6, 7, 9] rfl rfl (by decide) (by decide) hk1 hFc hP1 hD1
                                                have hP : va_P (dC, dI) vwCl ([wX cI cJ aX hg1 aL aS aW aR aO u8, wL cI cJ aL jL u9, wS cI cJ aS hg2 u10, wW cI cJ aW jW aP u11, wP cI cJ aP hg3 u12, wR cI cJ aR hg4 aZ u13, wS cI cJ aZ hg5 u14, wO cI cJ aO h202 u201, wM cI cJ aM jM u208, wY cI cJ jY u17] : List va_W).flatten H1 := hP.subF [0, 1, 2, 3, 4, 5, 6, 7, 9, 8] rfl
                                                have hD : va_D A ([wX cI cJ aX hg1 aL aS aW aR aO u8, wL cI cJ aL jL u9, wS cI cJ aS hg2 u10, wW cI cJ aW jW aP u11, wP cI cJ aP hg3 u12, wR cI cJ aR hg4 aZ u13, wS cI cJ aZ hg5 u14, wO cI cJ aO h202 u201, wM cI cJ aM jM u208, wY cI cJ jY u17] : List va_W).flatten := hD.subF [0, 1, 2, 3, 4, 5, 6, 7, 9, 8] (by decide) rfl
                                                generalize H1 = H at hP hS ⊢
                                                refine W.cs (Nat.add_zero _) (Nat.add_zero _) ?_
                                                refine lv_pop hx hb dL_law_603 rfl ?_
                                                refine lv_goto (tgt := 645) hx hb dL_law_604 (by decide) ?_
                                                obtain ⟨x211, ex211, hm⟩ := bnd_ex hm
                                                refine lv_iinc (v := x211) (lv' := [(4, .int x211), (0, .ref b), (1, .ref aX), (2, .ref aM), (3, .ref (jY 0))]) hx hb dL_law_645 hl (k := 4) rfl (by rw [ex211]; exact congrArg _ (by decide)) (by decide) rfl (fun ls hl => ?_)
                                                refine lv_goto (tgt := 33) hx hb dL_law_648 (by decide) ?_
                                                exact ih33 x211 u8 u9 u10 u11 u12 u13 u14 u201 u208 u17 hg1 hg2 hg3 hg4 hg5 h202 _ _ _ _ _ _ _ hm hc1 hc2 hP hD hS (lv_sub hl [1, 2, 3, 4, 0] rfl)
                                              · have hm := ite_f c260 hm
                                                by_cases c261 : x20 = (20 : Int32)
                                                · have hm := ite_t c261 hm
                                                  refine lv_tableIn (tgt := 607) hx hb dL_law_49 (by rw [c261]; decide) (by rw [c261]; decide) (by rw [c261]; rfl) (by decide) ?_
                                                  refine lv_aload_n hx hb dL_law_607 rfl (lv_at hl 1 rfl) ?_
                                                  have hPc : va_P (dC, dI) vwCl ([wX cI cJ aX hg1 aL aS aW aR aO u8, wS cI cJ aS hg2 u10, wW cI cJ aW jW aP u11, wP cI cJ aP hg3 u12, wR cI cJ aR hg4 aZ u13, wS cI cJ aZ hg5 u14, wO cI cJ aO hg6 u15] : List va_W).flatten _ := hP.subF [0, 2, 3, 4, 5, 6, 7] rfl
                                                  have hDc : va_D A ([wX cI cJ aX hg1 aL aS aW aR aO u8, wS cI cJ aS hg2 u10, wW cI cJ aW jW aP u11, wP cI cJ aP hg3 u12, wR cI cJ aR hg4 aZ u13, wS cI cJ aZ hg5 u14, wO cI cJ aO hg6 u15] : List va_W).flatten := hD.subF [0, 2, 3, 4, 5, 6, 7] (by decide) rfl
                                                  have hFc := va_freeF (fc := ([wX cI cJ aX hg1 aL aS aW aR aO u8, wS cI cJ aS hg2 u10, wW cI cJ aW jW aP u11, wP cI cJ aP hg3 u12, wR cI cJ aR hg4 aZ u13, wS cI cJ aZ hg5 u14, wO cI cJ aO hg6 u15] : List va_W)) hD hS hA [0, 2, 3, 4, 5, 6, 7] rfl
                                                  obtain ⟨u212o, u213o, u214o, u215o, u216o, u217o, r223o, kc225, ks225, e224, hm⟩ := oA7_of hm
                                                  obtain ⟨kcq226, ksq226, hm, hkcq226, hksq226⟩ := addc_of hm
                                                  refine va_calli (va_runV (As := []) (rest := []) ⟨hx, hb, hml, hown, ht⟩ (c_X6_agree l dC dI cI cJ aX hg1 aS hg2 aW jW aP hg3 aR hg4 aZ hg5 aO hg6 aL H.size u8 u10 u11 u12 u13 u14 u15 (u212o, u213o, u214o, u215o, u216o, u217o, r223o) kc225 ks225 e224) (cwV 0 ht (gdV kw_650 kw_648 kw_649 kw_161 kw_647) rfl rfl rfl ⟨rfl, nd_X6_agree⟩ ⟨Nat.le_of_ble_eq_true rfl, Nat.le_of_ble_eq_true rfl⟩) ⟨pcW_blind, va_recv hK hPc (ci := 7) (q0 := 0) rfl rfl, pcW_pre hPc hK hDc hN⟩ rfl rfl hl.1 rfl (lv_room (Nat.le_of_ble_eq_true rfl)) dL_law_608 ⟨Nat.le_trans (cle hc1 hkcq226) hmc, Nat.le_trans (cle hc2 hksq226) hms⟩) hS (fun q _ z => hFc q z) hFc (fun r223 uu t H1 locs ht1 hvm hw hB hz1 hk1 hS => ?_)
                                                  obtain ⟨u212, u213, u214, u215, u216, u217⟩ := uu
                                                  obtain ⟨h218, h219, h220, h221, h222, hP1, hD1⟩ := hB
                                                  rw [ht1] at hP1
                                                  obtain ⟨q0, q1, q2, q3, q4, q5, q6⟩ := inj7 hw
                                                  subst q0
                                                  subst q1
                                                  subst q2
                                                  subst q3
                                                  subst q4
                                                  subst q5
                                                  subst q6
                                                  obtain ⟨hP, hD⟩ := va_joinF (fr := ([wL cI cJ aL jL u9, wM cI cJ aM jM u16, wY cI cJ jY u17] : List va_W)) (f1 := ([wX cI cJ aX hg1 aL aS aW aR aO u8, wS cI cJ aS h218 u212, wW cI cJ aW jW aP u213, wP cI cJ aP h219 u214, wR cI cJ aR h220 aZ u215, wS cI cJ aZ h221 u216, wO cI cJ aO h222 u217] : List va_W)) hP hD [0, 2, 3, 4, 5, 6, 7] [1, 8, 9] rfl rfl (by decide) (by decide) hk1 hFc hP1 hD1
                                                  have hP : va_P (dC, dI) vwCl ([wX cI cJ aX hg1 aL aS aW aR aO u8, wL cI cJ aL jL u9, wS cI cJ aS h218 u212, wW cI cJ aW jW aP u213, wP cI cJ aP h219 u214, wR cI cJ aR h220 aZ u215, wS cI cJ aZ h221 u216, wO cI cJ aO h222 u217, wM cI cJ aM jM u16, wY cI cJ jY u17] : List va_W).flatten H1 := hP.subF [3, 0, 4, 5, 6, 7, 8, 9, 1, 2] rfl
                                                  have hD : va_D A ([wX cI cJ aX hg1 aL aS aW aR aO u8, wL cI cJ aL jL u9, wS cI cJ aS h218 u212, wW cI cJ aW jW aP u213, wP cI cJ aP h219 u214, wR cI cJ aR h220 aZ u215, wS cI cJ aZ h221 u216, wO cI cJ aO h222 u217, wM cI cJ aM jM u16, wY cI cJ jY u17] : List va_W).flatten := hD.subF [3, 0, 4, 5, 6, 7, 8, 9, 1, 2] (by decide) rfl
                                                  generalize H1 = H at hP hS ⊢
                                                  have hc1 := cadd hc1 hkcq226
                                                  have hc2 := cadd hc2 hksq226
                                                  refine lv_pop hx hb dL_law_611 rfl ?_
                                                  refine lv_aload_n hx hb dL_law_612 rfl (lv_at hl 2 rfl) ?_
                                                  have hPc : va_P (dC, dI) vwCl ([wM cI cJ aM jM u16] : List va_W).flatten _ := hP.subF [8] rfl
                                                  have hDc : va_D A ([wM cI cJ aM jM u16] : List va_W).flatten := hD.subF [8] (by decide) rfl
                                                  have hFc := va_freeF (fc := ([wM cI cJ aM jM u16] : List va_W)) hD hS hA [8] rfl
                                                  obtain ⟨u227o, r228o, e229, hm⟩ := oC2_of hm
                                                  refine va_calli (va_runV (As := []) (rest := []) ⟨hx, hb, hml, hown, ht⟩ (c_X7_agree l dC dI cI cJ aM jM H.size u16 (u227o, r228o) e229) (cwV 0 ht (gdV kw_654 kw_652 kw_653 kw_7 kw_651) rfl rfl rfl ⟨rfl, nd_X7_agree⟩ ⟨Nat.le_of_ble_eq_true rfl, Nat.le_of_ble_eq_true rfl⟩) ⟨pcW_blind, va_recv hK hPc (ci := 8) (q0 := 0) rfl rfl, pcW_pre hPc hK hDc hN⟩ rfl rfl hl.1 rfl (lv_room (Nat.le_of_ble_eq_true rfl)) dL_law_613 ⟨Nat.le_trans (cle0 hc1) hmc, Nat.le_trans (cle0 hc2) hms⟩) hS (fun q _ z => hFc q z) hFc (fun r228 uu t H1 locs ht1 hvm hw hB hz1 hk1 hS => ?_)
                                                  obtain ⟨u227, rfl⟩ : ∃ z, z = uu := ⟨_, rfl⟩
                                                  obtain ⟨hP1, hD1⟩ := hB
                                                  rw [ht1] at hP1
                                                  obtain ⟨q0, q1⟩ := inj2 hw
                                                  subst q0
                                                  subst q1
                                                  obtain ⟨hP, hD⟩ := va_joinF (fr := ([wX cI cJ aX hg1 aL aS aW aR aO u8, wL cI cJ aL jL u9, wS cI cJ aS h218 u212, wW cI cJ aW jW aP u213, wP cI cJ aP h219 u214, wR cI cJ aR h220 aZ u215, wS cI cJ aZ h221 u216, wO cI cJ aO h222 u217, wY cI cJ jY u17] : List va_W)) (f1 := ([wM cI cJ aM jM u227] : List va_W)) hP hD [8] [0, 1, 2, 3, 4, 5, 6, 7, 9] rfl rfl (by decide) (by decide) hk1 hFc hP1 hD1
                                                  have hP : va_P (dC, dI) vwCl ([wX cI cJ aX hg1 aL aS aW aR aO u8, wL cI cJ aL jL u9, wS cI cJ aS h218 u212, wW cI cJ aW jW aP u213, wP cI cJ aP h219 u214, wR cI cJ aR h220 aZ u215, wS cI cJ aZ h221 u216, wO cI cJ aO h222 u217, wM cI cJ aM jM u227, wY cI cJ jY u17] : List va_W).flatten H1 := hP.subF [0, 1, 2, 3, 4, 5, 6, 7, 9, 8] rfl
                                                  have hD : va_D A ([wX cI cJ aX hg1 aL aS aW aR aO u8, wL cI cJ aL jL u9, wS cI cJ aS h218 u212, wW cI cJ aW jW aP u213, wP cI cJ aP h219 u214, wR cI cJ aR h220 aZ u215, wS cI cJ aZ h221 u216, wO cI cJ aO h222 u217, wM cI cJ aM jM u227, wY cI cJ jY u17] : List va_W).flatten := hD.subF [0, 1, 2, 3, 4, 5, 6, 7, 9, 8] (by decide) rfl
                                                  generalize H1 = H at hP hS ⊢
                                                  refine W.cs (Nat.add_zero _) (Nat.add_zero _) ?_
                                                  refine lv_pop hx hb dL_law_616 rfl ?_
                                                  refine lv_goto (tgt := 645) hx hb dL_law_617 (by decide) ?_
                                                  obtain ⟨x230, ex230, hm⟩ := bnd_ex hm
                                                  refine lv_iinc (v := x230) (lv' := [(4, .int x230), (0, .ref b), (1, .ref aX), (2, .ref aM), (3, .ref (jY 0))]) hx hb dL_law_645 hl (k := 4) rfl (by rw [ex230]; exact congrArg _ (by decide)) (by decide) rfl (fun ls hl => ?_)
                                                  refine lv_goto (tgt := 33) hx hb dL_law_648 (by decide) ?_
                                                  exact ih33 x230 u8 u9 u212 u213 u214 u215 u216 u217 u227 u17 hg1 h218 h219 h220 h221 h222 _ _ _ _ _ _ _ hm hc1 hc2 hP hD hS (lv_sub hl [1, 2, 3, 4, 0] rfl)
                                                · have hm := ite_f c261 hm
                                                  by_cases c262 : x20 = (21 : Int32)
                                                  · have hm := ite_t c262 hm
                                                    refine lv_tableIn (tgt := 620) hx hb dL_law_49 (by rw [c262]; decide) (by rw [c262]; decide) (by rw [c262]; rfl) (by decide) ?_
                                                    refine lv_aload_n hx hb dL_law_620 rfl (lv_at hl 1 rfl) ?_
                                                    refine lv_aload_n hx hb dL_law_621 rfl (lv_at hl 0 rfl) ?_
                                                    refine lv_iload hx hb dL_law_622 (lv_at hl 4 rfl) ?_
                                                    refine lv_iconst (v := (1 : Int32)) hx hb dL_law_624 (by decide) ?_
                                                    refine lv_iadd hx hb dL_law_625 ?_
                                                    obtain ⟨g231, hm⟩ := gdi_of hm
                                                    refine va_sld hx hb hX hbl hbA hS g231 dL_law_626 ?_
                                                    have hPc : va_P (dC, dI) vwCl ([wX cI cJ aX hg1 aL aS aW aR aO u8, wS cI cJ aS hg2 u10, wR cI cJ aR hg4 aZ u13, wO cI cJ aO hg6 u15] : List va_W).flatten _ := hP.subF [0, 2, 5, 7] rfl
                                                    have hDc : va_D A ([wX cI cJ aX hg1 aL aS aW aR aO u8, wS cI cJ aS hg2 u10, wR cI cJ aR hg4 aZ u13, wO cI cJ aO hg6 u15] : List va_W).flatten := hD.subF [0, 2, 5, 7] (by decide) rfl
                                                    have hFc := va_freeF (fc := ([wX cI cJ aX hg1 aL aS aW aR aO u8, wS cI cJ aS hg2 u10, wR cI cJ aR hg4 aZ u13, wO cI cJ aO hg6 u15] : List va_W)) hD hS hA [0, 2, 5, 7] rfl
                                                    obtain ⟨r232o, e233, hm⟩ := oC1_of hm
                                                    refine va_calli (va_runV (As := [.int (xs ((x7 + (1 : Int32))).toNatClampNeg)]) (rest := []) ⟨hx, hb, hml, hown, ht⟩ (c_X6_told l dC dI cI cJ aX hg1 aS hg2 aR hg4 aO hg6 aL aW aZ H.size u8 u10 u13 u15 (xs ((x7 + (1 : Int32))).toNatClampNeg) r232o e233) (cwV 1 ht (gdV kw_658 kw_656 kw_657 kw_161 kw_655) rfl rfl rfl ⟨rfl, nd_X6_told⟩ ⟨Nat.le_of_ble_eq_true rfl, Nat.le_of_ble_eq_true rfl⟩) ⟨pcW_blind, va_recv hK hPc (ci := 7) (q0 := 0) rfl rfl, pcW_pre hPc hK hDc hN⟩ rfl rfl hl.1 rfl (lv_room (Nat.le_of_ble_eq_true rfl)) dL_law_627 ⟨Nat.le_trans (cle0 hc1) hmc, Nat.le_trans (cle0 hc2) hms⟩) hS (fun q _ z => hFc q z) hFc (fun r232 uu t H1 locs ht1 hvm hw hB hz1 hk1 hS => ?_)
                                                    obtain ⟨⟩ := uu
                                                    obtain ⟨hP1, hD1⟩ := hB
                                                    rw [ht1] at hP1
                                                    obtain rfl : r232 = r232o := Option.some.inj hw
                                                    obtain ⟨hP, hD⟩ := va_joinF (fr := ([wL cI cJ aL jL u9, wW cI cJ aW jW aP u11, wP cI cJ aP hg3 u12, wS cI cJ aZ hg5 u14, wM cI cJ aM jM u16, wY cI cJ jY u17] : List va_W)) (f1 := ([wX cI cJ aX hg1 aL aS aW aR aO u8, wS cI cJ aS hg2 u10, wR cI cJ aR hg4 aZ u13, wO cI cJ aO hg6 u15] : List va_W)) hP hD [0, 2, 5, 7] [1, 3, 4, 6, 8, 9] rfl rfl (by decide) (by decide) hk1 hFc hP1 hD1
                                                    have hP : va_P (dC, dI) vwCl ([wX cI cJ aX hg1 aL aS aW aR aO u8, wL cI cJ aL jL u9, wS cI cJ aS hg2 u10, wW cI cJ aW jW aP u11, wP cI cJ aP hg3 u12, wR cI cJ aR hg4 aZ u13, wS cI cJ aZ hg5 u14, wO cI cJ aO hg6 u15, wM cI cJ aM jM u16, wY cI cJ jY u17] : List va_W).flatten H1 := hP.subF [6, 0, 7, 1, 2, 8, 3, 9, 4, 5] rfl
                                                    have hD : va_D A ([wX cI cJ aX hg1 aL aS aW aR aO u8, wL cI cJ aL jL u9, wS cI cJ aS hg2 u10, wW cI cJ aW jW aP u11, wP cI cJ aP hg3 u12, wR cI cJ aR hg4 aZ u13, wS cI cJ aZ hg5 u14, wO cI cJ aO hg6 u15, wM cI cJ aM jM u16, wY cI cJ jY u17] : List va_W).flatten := hD.subF [6, 0, 7, 1, 2, 8, 3, 9, 4, 5] (by decide) rfl
                                                    generalize H1 = H at hP hS ⊢
                                                    refine W.cs (Nat.add_zero _) (Nat.add_zero _) ?_
                                                    refine lv_aload_n hx hb dL_law_630 rfl (lv_at hl 2 rfl) ?_
                                                    refine lv_aload_n hx hb dL_law_631 rfl (lv_at hl 0 rfl) ?_
                                                    refine lv_iload hx hb dL_law_632 (lv_at hl 4 rfl) ?_
                                                    refine lv_iconst (v := (1 : Int32)) hx hb dL_law_634 (by decide) ?_
                                                    refine lv_iadd hx hb dL_law_635 ?_
                                                    obtain ⟨g234, hm⟩ := gdi_of hm
                                                    refine va_sld hx hb hX hbl hbA hS g234 dL_law_636 ?_
                                                    have hPc : va_P (dC, dI) vwCl ([wM cI cJ aM jM u16] : List va_W).flatten _ := hP.subF [8] rfl
                                                    have hDc : va_D A ([wM cI cJ aM jM u16] : List va_W).flatten := hD.subF [8] (by decide) rfl
                                                    have hFc := va_freeF (fc := ([wM cI cJ aM jM u16] : List va_W)) hD hS hA [8] rfl
                                                    obtain ⟨u235o, r236o, e237, hm⟩ := oC2_of hm
                                                    refine va_calli (va_runV (As := [.int (xs ((x7 + (1 : Int32))).toNatClampNeg)]) (rest := [.int r232]) ⟨hx, hb, hml, hown, ht⟩ (c_X7_told l dC dI cI cJ aM jM H.size u16 (xs ((x7 + (1 : Int32))).toNatClampNeg) (u235o, r236o) e237) (cwV 1 ht (gdV kw_662 kw_660 kw_661 kw_7 kw_659) rfl rfl rfl ⟨rfl, nd_X7_told⟩ ⟨Nat.le_of_ble_eq_true rfl, Nat.le_of_ble_eq_true rfl⟩) ⟨pcW_blind, va_recv hK hPc (ci := 8) (q0 := 0) rfl rfl, pcW_pre hPc hK hDc hN⟩ rfl rfl hl.1 rfl (lv_room (Nat.le_of_ble_eq_true rfl)) dL_law_637 ⟨Nat.le_trans (cle0 hc1) hmc, Nat.le_trans (cle0 hc2) hms⟩) hS (fun q _ z => hFc q z) hFc (fun r236 uu t H1 locs ht1 hvm hw hB hz1 hk1 hS => ?_)
                                                    obtain ⟨u235, rfl⟩ : ∃ z, z = uu := ⟨_, rfl⟩
                                                    obtain ⟨hP1, hD1⟩ := hB
                                                    rw [ht1] at hP1
                                                    obtain ⟨q0, q1⟩ := inj2 hw
                                                    subst q0
                                                    subst q1
                                                    obtain ⟨hP, hD⟩ := va_joinF (fr := ([wX cI cJ aX hg1 aL aS aW aR aO u8, wL cI cJ aL jL u9, wS cI cJ aS hg2 u10, wW cI cJ aW jW aP u11, wP cI cJ aP hg3 u12, wR cI cJ aR hg4 aZ u13, wS cI cJ aZ hg5 u14, wO cI cJ aO hg6 u15, wY cI cJ jY u17] : List va_W)) (f1 := ([wM cI cJ aM jM u235] : List va_W)) hP hD [8] [0, 1, 2, 3, 4, 5, 6, 7, 9] rfl rfl (by decide) (by decide) hk1 hFc hP1 hD1
                                                    have hP : va_P (dC, dI) vwCl ([wX cI cJ aX hg1 aL aS aW aR aO u8, wL cI cJ aL jL u9, wS cI cJ aS hg2 u10, wW cI cJ aW jW aP u11, wP cI cJ aP hg3 u12, wR cI cJ aR hg4 aZ u13, wS cI cJ aZ hg5 u14, wO cI cJ aO hg6 u15, wM cI cJ aM jM u235, wY cI cJ jY u17] : List va_W).flatten H1 := hP.subF [0, 1, 2, 3, 4, 5, 6, 7, 9, 8] rfl
                                                    have hD : va_D A ([wX cI cJ aX hg1 aL aS aW aR aO u8, wL cI cJ aL jL u9, wS cI cJ aS hg2 u10, wW cI cJ aW jW aP u11, wP cI cJ aP hg3 u12, wR cI cJ aR hg4 aZ u13, wS cI cJ aZ hg5 u14, wO cI cJ aO hg6 u15, wM cI cJ aM jM u235, wY cI cJ jY u17] : List va_W).flatten := hD.subF [0, 1, 2, 3, 4, 5, 6, 7, 9, 8] (by decide) rfl
                                                    generalize H1 = H at hP hS ⊢
                                                    refine W.cs (Nat.add_zero _) (Nat.add_zero _) ?_
                                                    refine lv_icmp_eq (tgt := 645) hx hb dL_law_640 (by decide) (fun c238 => ?_) (fun c238 => ?_)
                                                    · have hm := ite_t c238 hm
                                                      obtain ⟨x239, ex239, hm⟩ := bnd_ex hm
                                                      refine lv_iinc (v := x239) (lv' := [(4, .int x239), (0, .ref b), (1, .ref aX), (2, .ref aM), (3, .ref (jY 0))]) hx hb dL_law_645 hl (k := 4) rfl (by rw [ex239]; exact congrArg _ (by decide)) (by decide) rfl (fun ls hl => ?_)
                                                      refine lv_goto (tgt := 33) hx hb dL_law_648 (by decide) ?_
                                                      exact ih33 x239 u8 u9 u10 u11 u12 u13 u14 u15 u235 u17 hg1 hg2 hg3 hg4 hg5 hg6 _ _ _ _ _ _ _ hm hc1 hc2 hP hD hS (lv_sub hl [1, 2, 3, 4, 0] rfl)
                                                    · have hm := ite_f c238 hm
                                                      refine lv_iconst (v := (0 : Int32)) hx hb dL_law_643 (by decide) ?_
                                                      exact absurd (Option.some.inj (ret0 hm).1) (by decide)
                                                  · have hm := ite_f c262 hm
                                                    refine lv_tableOut (tgt := 645) hx hb dL_law_49 (sw_out 22 (by decide) (fun j hj => by rcases (show j = 0 ∨ j = 1 ∨ j = 2 ∨ j = 3 ∨ j = 4 ∨ j = 5 ∨ j = 6 ∨ j = 7 ∨ j = 8 ∨ j = 9 ∨ j = 10 ∨ j = 11 ∨ j = 12 ∨ j = 13 ∨ j = 14 ∨ j = 15 ∨ j = 16 ∨ j = 17 ∨ j = 18 ∨ j = 19 ∨ j = 20 ∨ j = 21 by omega) with rfl | rfl | rfl | rfl | rfl | rfl | rfl | rfl | rfl | rfl | rfl | rfl | rfl | rfl | rfl | rfl | rfl | rfl | rfl | rfl | rfl | rfl; all_goals (first | exact c241 | exact c242 | exact c243 | exact c244 | exact c245 | exact c246 | exact c247 | exact c248 | exact c249 | exact c250 | exact c251 | exact c252 | exact c253 | exact c254 | exact c255 | exact c256 | exact c257 | exact c258 | exact c259 | exact c260 | exact c261 | exact c262))) (by decide) ?_
                                                    obtain ⟨x240, ex240, hm⟩ := bnd_ex hm
                                                    refine lv_iinc (v := x240) (lv' := [(4, .int x240), (0, .ref b), (1, .ref aX), (2, .ref aM), (3, .ref (jY 0))]) hx hb dL_law_645 hl (k := 4) rfl (by rw [ex240]; exact congrArg _ (by decide)) (by decide) rfl (fun ls hl => ?_)
                                                    refine lv_goto (tgt := 33) hx hb dL_law_648 (by decide) ?_
                                                    exact ih33 x240 u8 u9 u10 u11 u12 u13 u14 u15 u16 u17 hg1 hg2 hg3 hg4 hg5 hg6 _ _ _ _ _ _ _ hm hc1 hc2 hP hD hS (lv_sub hl [1, 2, 3, 4, 0] rfl)
  exact LP33 FU p4 uX uL uS uW uP uR uZ uO uM uY jX jS jP jR jZ jO _ _ _ _ _ _ _ hm hc1 hc2 hP hD hS (lv_sub hl [0, 1, 2, 3, 4] rfl)

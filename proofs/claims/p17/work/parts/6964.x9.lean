/-! the reference's bytes, its row's end, its measures, exactly -/
set_option maxRecDepth 100000 in
set_option maxHeartbeats 4000000 in
theorem y_add {Zi : Nat → Option (Nat × (Nat → Int))} {d n : Nat} {D : Nat → Nat × Nat} {s : Nat → Int} {p : Nat → Nat} {c : Nat → Nat → Int} (hd : 0 ≤ d) (hS : bS s) (hC : bC D c) (W : WT) (v : Int) (b_v : -2147483648 ≤ v ∧ v ≤ 2147483647) (hp0 : s 3016 ≤ 65535) (hp1 : wrb W (s 3016) (c 35)) : tt Zi d 147 (0, [some (.inr (.inl 30)), some (.inl v)], [], n, D, s, p, c) (fun R H => ∃ (s' : Nat → Int) (c' : Nat → Nat → Int), R = .inl none ∧ H = (n, D, s', p, c') ∧ bS s' ∧ bC D c' ∧ fr s s' [3016] ∧ frc c c' [35] ∧ (s' 3016 = s 3016 + 1) ∧ (wrb (wAdd W v) (s' 3016) (c' 35))) := by
  refine tt_k 6 (S' := (10, [some (.inr (.inl 30)), some (.inl v)], [.inl (mi_i2b v), .inl (s 3016), .inr (.inl 35)], n, D, s, p, c)) rfl ?_
  have b1 : 0 ≤ (s 3016) ∧ (s 3016) ≤ 65536 := hS 3016
  have e2 := mi_i2b_bd v
  refine tt_bst (i := (s 3016)) (x := (mi_i2b v)) rfl rfl (by omega) ?_
  show tt Zi d 147 (11, [some (.inr (.inl 30)), some (.inl v)], [], n, D, s, p, (uc c 35 (ua (c 35) ((s 3016)).toNat (mi_nb (mi_i2b v))))) _
  refine tt_k 6 (S' := (21, [some (.inr (.inl 30)), some (.inl v)], [], n, D, (us s 3016 ((s 3016) + 1)), p, (uc c 35 (ua (c 35) ((s 3016)).toNat (mi_nb (mi_i2b v)))))) rfl ?_
  exact tt_rtv rfl rfl ⟨(us s 3016 ((s 3016) + 1)), (uc c 35 (ua (c 35) ((s 3016)).toNat (mi_nb (mi_i2b v)))), rfl, rfl, (bS_us hS (show 0 ≤ ((s 3016) + 1) ∧ ((s 3016) + 1) ≤ 65536 by omega)), (bC_st hC (mi_nb_bd _)), (fr_us (by decide) fr_rf), (frc_uc (by decide) frc_rf), rfl, by show wrb (wAdd W v) (((s 3016) + 1)) ((ua (c 35) ((s 3016)).toNat (mi_nb (mi_i2b v)))); exact wrb_add hp1 (by omega)⟩
set_option maxRecDepth 100000 in
set_option maxHeartbeats 4000000 in
theorem y_two {Zi : Nat → Option (Nat × (Nat → Int))} {d n : Nat} {D : Nat → Nat × Nat} {s : Nat → Int} {p : Nat → Nat} {c : Nat → Nat → Int} (hd : 1 ≤ d) (hS : bS s) (hC : bC D c) (W : WT) (v : Int) (b_v : -2147483648 ≤ v ∧ v ≤ 2147483647) (hp0 : s 3016 ≤ 65534) (hp1 : wrb W (s 3016) (c 35)) : tt Zi d 148 (0, [some (.inr (.inl 30)), some (.inl v)], [], n, D, s, p, c) (fun R H => ∃ (s' : Nat → Int) (c' : Nat → Nat → Int), R = .inl none ∧ H = (n, D, s', p, c') ∧ bS s' ∧ bC D c' ∧ fr s s' [3016] ∧ frc c c' [35] ∧ (s' 3016 = s 3016 + 2) ∧ (wrb (wAdd (wAdd W (mi_shr v 8)) v) (s' 3016) (c' 35))) := by
  refine tt_k 4 (S' := (5, [some (.inr (.inl 30)), some (.inl v)], [.inl (mi_shr v 8), .inr (.inl 30)], n, D, s, p, c)) rfl ?_
  have e1 := mi_shr_bd v 8
  have b2 : 0 ≤ (s 3016) ∧ (s 3016) ≤ 65536 := hS 3016
  refine tt_cl (by omega) rfl (y_add (Zi := Zi) (D := D) (s := s) (p := p) (c := c) (by omega) hS hC W (mi_shr v 8) (by omega) (show (s 3016) ≤ 65535 by omega) hp1) ?_
  rintro _ _ ⟨s3, c4, rfl, rfl, hS3, hC4, f5, g6, k7, k8⟩
  show tt Zi d 148 (8, [some (.inr (.inl 30)), some (.inl v)], [], n, D, s3, p, c4) _
  replace k7 : (s3 3016) = (s 3016) + 1 := k7
  replace k8 : wrb (wAdd W (mi_shr v 8)) ((s3 3016)) ((c4 35)) := k8
  have b9 : 0 ≤ (s3 3016) ∧ (s3 3016) ≤ 65536 := hS3 3016
  refine tt_k 2 (S' := (10, [some (.inr (.inl 30)), some (.inl v)], [.inl v, .inr (.inl 30)], n, D, s3, p, c4)) rfl ?_
  refine tt_cl (by omega) rfl (y_add (Zi := Zi) (D := D) (s := s3) (p := p) (c := c4) (by omega) hS3 hC4 (wAdd W (mi_shr v 8)) v (by omega) (show (s3 3016) ≤ 65535 by omega) k8) ?_
  rintro _ _ ⟨s10, c11, rfl, rfl, hS10, hC11, f12, g13, k14, k15⟩
  show tt Zi d 148 (13, [some (.inr (.inl 30)), some (.inl v)], [], n, D, s10, p, c11) _
  replace k14 : (s10 3016) = (s3 3016) + 1 := k14
  replace k15 : wrb (wAdd (wAdd W (mi_shr v 8)) v) ((s10 3016)) ((c11 35)) := k15
  have b16 : 0 ≤ (s10 3016) ∧ (s10 3016) ≤ 65536 := hS10 3016
  exact tt_rtv rfl rfl ⟨s10, c11, rfl, rfl, hS10, hC11, (fr_tr (fr_tr fr_rf f5 (by decide)) f12 (by decide)), (frc_tr (frc_tr frc_rf g6 (by decide)) g13 (by decide)), by show (s10 3016) = s 3016 + 2; omega, k15⟩
set_option maxRecDepth 100000 in
set_option maxHeartbeats 4000000 in
theorem y_mark {Zi : Nat → Option (Nat × (Nat → Int))} {d n : Nat} {D : Nat → Nat × Nat} {s : Nat → Int} {p : Nat → Nat} {c : Nat → Nat → Int} (hd : 1 ≤ d) (hS : bS s) (hC : bC D c) (W : WT) (v : Int) (b_v : -2147483648 ≤ v ∧ v ≤ 2147483647) (hp0 : s 3016 ≤ 65534) (hp1 : wrb W (s 3016) (c 35)) : tt Zi d 146 (0, [some (.inr (.inl 30)), some (.inl v)], [], n, D, s, p, c) (fun R H => ∃ (s' : Nat → Int) (c' : Nat → Nat → Int), R = .inl none ∧ H = (n, D, s', p, c') ∧ bS s' ∧ bC D c' ∧ fr s s' [3016] ∧ frc c c' [35] ∧ (s' 3016 = s 3016 + 2) ∧ (wrb (wAdd (wAdd W 255) v) (s' 3016) (c' 35))) := by
  refine tt_k 2 (S' := (4, [some (.inr (.inl 30)), some (.inl v)], [.inl 255, .inr (.inl 30)], n, D, s, p, c)) rfl ?_
  have b1 : 0 ≤ (s 3016) ∧ (s 3016) ≤ 65536 := hS 3016
  refine tt_cl (by omega) rfl (y_add (Zi := Zi) (D := D) (s := s) (p := p) (c := c) (by omega) hS hC W 255 (by omega) (show (s 3016) ≤ 65535 by omega) hp1) ?_
  rintro _ _ ⟨s2, c3, rfl, rfl, hS2, hC3, f4, g5, k6, k7⟩
  show tt Zi d 146 (7, [some (.inr (.inl 30)), some (.inl v)], [], n, D, s2, p, c3) _
  replace k6 : (s2 3016) = (s 3016) + 1 := k6
  replace k7 : wrb (wAdd W 255) ((s2 3016)) ((c3 35)) := k7
  have b8 : 0 ≤ (s2 3016) ∧ (s2 3016) ≤ 65536 := hS2 3016
  refine tt_k 2 (S' := (9, [some (.inr (.inl 30)), some (.inl v)], [.inl v, .inr (.inl 30)], n, D, s2, p, c3)) rfl ?_
  refine tt_cl (by omega) rfl (y_add (Zi := Zi) (D := D) (s := s2) (p := p) (c := c3) (by omega) hS2 hC3 (wAdd W 255) v (by omega) (show (s2 3016) ≤ 65535 by omega) k7) ?_
  rintro _ _ ⟨s9, c10, rfl, rfl, hS9, hC10, f11, g12, k13, k14⟩
  show tt Zi d 146 (12, [some (.inr (.inl 30)), some (.inl v)], [], n, D, s9, p, c10) _
  replace k13 : (s9 3016) = (s2 3016) + 1 := k13
  replace k14 : wrb (wAdd (wAdd W 255) v) ((s9 3016)) ((c10 35)) := k14
  have b15 : 0 ≤ (s9 3016) ∧ (s9 3016) ≤ 65536 := hS9 3016
  exact tt_rtv rfl rfl ⟨s9, c10, rfl, rfl, hS9, hC10, (fr_tr (fr_tr fr_rf f4 (by decide)) f11 (by decide)), (frc_tr (frc_tr frc_rf g5 (by decide)) g12 (by decide)), by show (s9 3016) = s 3016 + 2; omega, k14⟩
set_option maxRecDepth 100000 in
set_option maxHeartbeats 4000000 in
theorem x_flush {Zi : Nat → Option (Nat × (Nat → Int))} {d n : Nat} {D : Nat → Nat × Nat} {s : Nat → Int} {p : Nat → Nat} {c : Nat → Nat → Int} (hd : 3 ≤ d) (hS : bS s) (hC : bC D c) (W : WT) (hp0 : w_ok (s 3047) (s 3048)) (hp1 : wJ W) (hp2 : wrl W (s 3016) (s 3047) (s 3048) (c 35)) (hp3 : s 3016 ≤ 65500) : tt Zi d 177 (0, [some (.inr (.inl 30)), none, none], [], n, D, s, p, c) (fun R H => ∃ (s' : Nat → Int) (c' : Nat → Nat → Int), R = .inl none ∧ H = (n, D, s', p, c') ∧ bS s' ∧ bC D c' ∧ fr s s' [3016, 3047, 3048] ∧ frc c c' [35] ∧ (s 3016 ≤ s' 3016 ∧ s' 3016 ≤ s 3016 + 9) ∧ (wrb (wFin W) (s' 3016) (c' 35))) := by
  have w1 := w_lo (size := s 3016) hp0
  have hwb := wrb_l hp2
  have hzs : W.2.1 = s 3016 := hp2.1
  have hrr : W.2.2.2 = s 3048 := hp2.2.2.1
  have h1s : 1 ≤ s 3016 := by have h := hp1.2.1; omega
  have hla : c 35 (s 3016 - 1).toNat = W.1 (W.2.1 - 1).toNat := by rw [hzs]; exact hp2.2.2.2 _ (by omega)
  have hJ := hp1.2.2
  refine tt_k 6 (S' := (10, [some (.inr (.inl 30)), none, none], [.inl ((s 3016) - 1), .inr (.inl 35)], n, D, s, p, c)) rfl ?_
  have b2 : 0 ≤ (s 3016) ∧ (s 3016) ≤ 65536 := hS 3016
  refine tt_bldv (i := ((s 3016) - 1)) (v := (c 35 (((s 3016) - 1)).toNat)) rfl rfl (by omega) rfl ?_
  show tt Zi d 177 (11, [some (.inr (.inl 30)), none, none], [.inl ((c 35 (((s 3016) - 1)).toNat))], n, D, s, p, c) _
  have b3 : -128 ≤ (c 35 (((s 3016) - 1)).toNat) ∧ (c 35 (((s 3016) - 1)).toNat) ≤ 127 := hC 35 _
  refine tt_k 3 (S' := (18, [some (.inr (.inl 30)), none, none], [.inl 255, .inl ((mi_and (c 35 (((s 3016) - 1)).toNat) 255))], n, D, s, p, c)) rfl ?_
  have e4 := mi_and255 ((c 35 (((s 3016) - 1)).toNat))
  refine tb_ne (x := (mi_and (c 35 (((s 3016) - 1)).toNat) 255)) (y := 255) rfl rfl (by omega) (fun h5 => ?_) (fun h5 => ?_)
  · show tt Zi d 177 (25, [some (.inr (.inl 30)), none, none], [], n, D, s, p, c) _
    refine tt_k 3 (S' := (28, [some (.inr (.inl 30)), some (.inl 0), none], [.inl 0], n, D, s, p, c)) rfl ?_
    refine tz_eq (x := 0) rfl rfl (by omega) (fun h6 => ?_) (fun h6 => ?_)
    · show tt Zi d 177 (36, [some (.inr (.inl 30)), some (.inl 0), none], [], n, D, s, p, c) _
      refine tt_k 5 (S' := (44, [some (.inr (.inl 30)), some (.inl 0), some (.inl 8)], [.inl 8, .inl (s 3048)], n, D, s, p, c)) rfl ?_
      have b7 : 0 ≤ (s 3048) ∧ (s 3048) ≤ 8 := hS 3048
      refine tb_ge (x := (s 3048)) (y := 8) rfl rfl (by omega) (fun h8 => ?_) (fun h8 => ?_)
      · show tt Zi d 177 (86, [some (.inr (.inl 30)), some (.inl 0), some (.inl 8)], [], n, D, s, p, c) _
        refine tt_k 1 (S' := (87, [some (.inr (.inl 30)), some (.inl 0), some (.inl 8)], [.inl 0], n, D, s, p, c)) rfl ?_
        refine tz_eq (x := 0) rfl rfl (by omega) (fun h9 => ?_) (fun h9 => ?_)
        · show tt Zi d 177 (95, [some (.inr (.inl 30)), some (.inl 0), some (.inl 8)], [], n, D, s, p, c) _
          exact tt_rtv rfl rfl ⟨s, c, rfl, rfl, hS, hC, fr_rf, frc_rf, by show s 3016 ≤ (s 3016) ∧ (s 3016) ≤ s 3016 + 9; omega, by show wrb (wFin W) ((s 3016)) ((c 35)); have h8 := wFin_8 (W := W) (by rw [← hla] at hJ; omega); unfold wrb; rw [h8]; exact hwb⟩
        · exfalso; omega
      · show tt Zi d 177 (47, [some (.inr (.inl 30)), some (.inl 0), some (.inl 8)], [], n, D, s, p, c) _
        refine tt_k 4 (S' := (53, [some (.inr (.inl 30)), some (.inl 0), some (.inl 8)], [.inl 0, .inl (s 3048), .inr (.inl 30)], n, D, s, p, c)) rfl ?_
        have b10 : 0 ≤ (s 3047) ∧ (s 3047) ≤ 255 := hS 3047
        refine tt_cl (by omega) rfl (x_putBits (Zi := Zi) (D := D) (s := s) (p := p) (c := c) (by omega) hS hC W (s 3048) 0 (by omega) (by omega) hp0 (show (s 3016) + (s 3048) ≤ 65535 by omega) (show (s 3048) ≤ 32 ∨ 0 = 0 by omega) hp2) ?_
        rintro _ _ ⟨s11, c12, rfl, rfl, hS11, hC12, f13, g14, k15, k16, k17⟩
        show tt Zi d 177 (56, [some (.inr (.inl 30)), some (.inl 0), some (.inl 8)], [], n, D, s11, p, c12) _
        replace k15 : w_ok ((s11 3047)) ((s11 3048)) := k15
        replace k16 : (s 3016) ≤ (s11 3016) ∧ (s11 3016) ≤ (s 3016) + (s 3048) := k16
        replace k17 : wrl (wBits (s 3048).toNat 0 W) ((s11 3016)) ((s11 3047)) ((s11 3048)) ((c12 35)) := k17
        have b18 : 0 ≤ (s11 3047) ∧ (s11 3047) ≤ 255 := hS11 3047
        have b19 : 0 ≤ (s11 3048) ∧ (s11 3048) ≤ 8 := hS11 3048
        have b20 : 0 ≤ (s11 3016) ∧ (s11 3016) ≤ 65536 := hS11 3016
        have hzf := wFin_z hp1.1 (by omega)
        rw [hrr] at hzf
        have hwf : wrb (wFin W) (s11 3016) (c12 35) := by have h := wrb_l k17; unfold wrb at h ⊢; rw [← hzf.1, ← hzf.2.1]; exact h
        have hzz : s11 3016 = (wFin W).2.1 := hwf.1.symm
        have hl9 : ¬ c12 35 (s11 3016 - 1).toNat % 256 = 255 := by rw [hwf.2 _ (by omega), hzz]; exact hzf.2.2
        refine tt_k 8 (S' := (69, [some (.inr (.inl 30)), some (.inl 0), some (.inl 8)], [.inl ((s11 3016) - 1), .inr (.inl 35)], n, D, s11, p, c12)) rfl ?_
        refine tt_bldv (i := ((s11 3016) - 1)) (v := (c12 35 (((s11 3016) - 1)).toNat)) rfl rfl (by omega) rfl ?_
        show tt Zi d 177 (70, [some (.inr (.inl 30)), some (.inl 0), some (.inl 8)], [.inl ((c12 35 (((s11 3016) - 1)).toNat))], n, D, s11, p, c12) _
        have b21 : -128 ≤ (c12 35 (((s11 3016) - 1)).toNat) ∧ (c12 35 (((s11 3016) - 1)).toNat) ≤ 127 := hC12 35 _
        refine tt_k 3 (S' := (77, [some (.inr (.inl 30)), some (.inl 0), some (.inl 8)], [.inl 255, .inl ((mi_and (c12 35 (((s11 3016) - 1)).toNat) 255))], n, D, s11, p, c12)) rfl ?_
        have e22 := mi_and255 ((c12 35 (((s11 3016) - 1)).toNat))
        refine tb_ne (x := (mi_and (c12 35 (((s11 3016) - 1)).toNat) 255)) (y := 255) rfl rfl (by omega) (fun h23 => ?_) (fun h23 => ?_)
        · show tt Zi d 177 (84, [some (.inr (.inl 30)), some (.inl 0), some (.inl 8)], [], n, D, s11, p, c12) _
          refine tt_k 3 (S' := (87, [some (.inr (.inl 30)), some (.inl 0), some (.inl 8)], [.inl 0], n, D, s11, p, c12)) rfl ?_
          refine tz_eq (x := 0) rfl rfl (by omega) (fun h24 => ?_) (fun h24 => ?_)
          · show tt Zi d 177 (95, [some (.inr (.inl 30)), some (.inl 0), some (.inl 8)], [], n, D, s11, p, c12) _
            exact tt_rtv rfl rfl ⟨s11, c12, rfl, rfl, hS11, hC12, (fr_tr fr_rf f13 (by decide)), (frc_tr frc_rf g14 (by decide)), by show s 3016 ≤ (s11 3016) ∧ (s11 3016) ≤ s 3016 + 9; omega, by show wrb (wFin W) ((s11 3016)) ((c12 35)); exact hwf⟩
          · exfalso; omega
        · show tt Zi d 177 (80, [some (.inr (.inl 30)), some (.inl 0), some (.inl 8)], [], n, D, s11, p, c12) _
          refine tt_k 4 (S' := (87, [some (.inr (.inl 30)), some (.inl 1), some (.inl 8)], [.inl 1], n, D, s11, p, c12)) rfl ?_
          refine tz_eq (x := 1) rfl rfl (by omega) (fun h25 => ?_) (fun h25 => ?_)
          · exfalso; omega
          · show tt Zi d 177 (90, [some (.inr (.inl 30)), some (.inl 1), some (.inl 8)], [], n, D, s11, p, c12) _
            refine tt_k 2 (S' := (92, [some (.inr (.inl 30)), some (.inl 1), some (.inl 8)], [.inl 0, .inr (.inl 30)], n, D, s11, p, c12)) rfl ?_
            refine tt_cl (by omega) rfl (y_add (Zi := Zi) (D := D) (s := s11) (p := p) (c := c12) (by omega) hS11 hC12 (wFin W) 0 (by omega) (show (s11 3016) ≤ 65535 by omega) hwf) ?_
            rintro _ _ ⟨s26, c27, rfl, rfl, hS26, hC27, f28, g29, k30, k31⟩
            show tt Zi d 177 (95, [some (.inr (.inl 30)), some (.inl 1), some (.inl 8)], [], n, D, s26, p, c27) _
            replace k30 : (s26 3016) = (s11 3016) + 1 := k30
            replace k31 : wrb (wAdd (wFin W) 0) ((s26 3016)) ((c27 35)) := k31
            have b32 : 0 ≤ (s26 3016) ∧ (s26 3016) ≤ 65536 := hS26 3016
            exact tt_rtv rfl rfl ⟨s26, c27, rfl, rfl, hS26, hC27, (fr_tr (fr_tr fr_rf f13 (by decide)) f28 (by decide)), (frc_tr (frc_tr frc_rf g14 (by decide)) g29 (by decide)), by show s 3016 ≤ (s26 3016) ∧ (s26 3016) ≤ s 3016 + 9; omega, by show wrb (wFin W) ((s26 3016)) ((c27 35)); exfalso; omega⟩
    · exfalso; omega
  · show tt Zi d 177 (21, [some (.inr (.inl 30)), none, none], [], n, D, s, p, c) _
    refine tt_k 4 (S' := (28, [some (.inr (.inl 30)), some (.inl 1), none], [.inl 1], n, D, s, p, c)) rfl ?_
    refine tz_eq (x := 1) rfl rfl (by omega) (fun h33 => ?_) (fun h33 => ?_)
    · exfalso; omega
    · show tt Zi d 177 (31, [some (.inr (.inl 30)), some (.inl 1), none], [], n, D, s, p, c) _
      refine tt_k 6 (S' := (44, [some (.inr (.inl 30)), some (.inl 1), some (.inl 7)], [.inl 7, .inl (s 3048)], n, D, s, p, c)) rfl ?_
      have b34 : 0 ≤ (s 3048) ∧ (s 3048) ≤ 8 := hS 3048
      refine tb_ge (x := (s 3048)) (y := 7) rfl rfl (by omega) (fun h35 => ?_) (fun h35 => ?_)
      · show tt Zi d 177 (86, [some (.inr (.inl 30)), some (.inl 1), some (.inl 7)], [], n, D, s, p, c) _
        refine tt_k 1 (S' := (87, [some (.inr (.inl 30)), some (.inl 1), some (.inl 7)], [.inl 1], n, D, s, p, c)) rfl ?_
        refine tz_eq (x := 1) rfl rfl (by omega) (fun h36 => ?_) (fun h36 => ?_)
        · exfalso; omega
        · show tt Zi d 177 (90, [some (.inr (.inl 30)), some (.inl 1), some (.inl 7)], [], n, D, s, p, c) _
          refine tt_k 2 (S' := (92, [some (.inr (.inl 30)), some (.inl 1), some (.inl 7)], [.inl 0, .inr (.inl 30)], n, D, s, p, c)) rfl ?_
          refine tt_cl (by omega) rfl (y_add (Zi := Zi) (D := D) (s := s) (p := p) (c := c) (by omega) hS hC W 0 (by omega) (show (s 3016) ≤ 65535 by omega) hwb) ?_
          rintro _ _ ⟨s37, c38, rfl, rfl, hS37, hC38, f39, g40, k41, k42⟩
          show tt Zi d 177 (95, [some (.inr (.inl 30)), some (.inl 1), some (.inl 7)], [], n, D, s37, p, c38) _
          replace k41 : (s37 3016) = (s 3016) + 1 := k41
          replace k42 : wrb (wAdd W 0) ((s37 3016)) ((c38 35)) := k42
          have b43 : 0 ≤ (s37 3016) ∧ (s37 3016) ≤ 65536 := hS37 3016
          exact tt_rtv rfl rfl ⟨s37, c38, rfl, rfl, hS37, hC38, (fr_tr fr_rf f39 (by decide)), (frc_tr frc_rf g40 (by decide)), by show s 3016 ≤ (s37 3016) ∧ (s37 3016) ≤ s 3016 + 9; omega, by show wrb (wFin W) ((s37 3016)) ((c38 35)); have h7 := wFin_7 hp1 (by rw [← hla]; omega) (by omega); have h := k42; unfold wrb at h ⊢; rw [h7]; exact h⟩
      · show tt Zi d 177 (47, [some (.inr (.inl 30)), some (.inl 1), some (.inl 7)], [], n, D, s, p, c) _
        refine tt_k 4 (S' := (53, [some (.inr (.inl 30)), some (.inl 1), some (.inl 7)], [.inl 0, .inl (s 3048), .inr (.inl 30)], n, D, s, p, c)) rfl ?_
        have b44 : 0 ≤ (s 3047) ∧ (s 3047) ≤ 255 := hS 3047
        refine tt_cl (by omega) rfl (x_putBits (Zi := Zi) (D := D) (s := s) (p := p) (c := c) (by omega) hS hC W (s 3048) 0 (by omega) (by omega) hp0 (show (s 3016) + (s 3048) ≤ 65535 by omega) (show (s 3048) ≤ 32 ∨ 0 = 0 by omega) hp2) ?_
        rintro _ _ ⟨s45, c46, rfl, rfl, hS45, hC46, f47, g48, k49, k50, k51⟩
        show tt Zi d 177 (56, [some (.inr (.inl 30)), some (.inl 1), some (.inl 7)], [], n, D, s45, p, c46) _
        replace k49 : w_ok ((s45 3047)) ((s45 3048)) := k49
        replace k50 : (s 3016) ≤ (s45 3016) ∧ (s45 3016) ≤ (s 3016) + (s 3048) := k50
        replace k51 : wrl (wBits (s 3048).toNat 0 W) ((s45 3016)) ((s45 3047)) ((s45 3048)) ((c46 35)) := k51
        have b52 : 0 ≤ (s45 3047) ∧ (s45 3047) ≤ 255 := hS45 3047
        have b53 : 0 ≤ (s45 3048) ∧ (s45 3048) ≤ 8 := hS45 3048
        have b54 : 0 ≤ (s45 3016) ∧ (s45 3016) ≤ 65536 := hS45 3016
        have hzf := wFin_z hp1.1 (by omega)
        rw [hrr] at hzf
        have hwf : wrb (wFin W) (s45 3016) (c46 35) := by have h := wrb_l k51; unfold wrb at h ⊢; rw [← hzf.1, ← hzf.2.1]; exact h
        have hzz : s45 3016 = (wFin W).2.1 := hwf.1.symm
        have hl9 : ¬ c46 35 (s45 3016 - 1).toNat % 256 = 255 := by rw [hwf.2 _ (by omega), hzz]; exact hzf.2.2
        refine tt_k 8 (S' := (69, [some (.inr (.inl 30)), some (.inl 1), some (.inl 8)], [.inl ((s45 3016) - 1), .inr (.inl 35)], n, D, s45, p, c46)) rfl ?_
        refine tt_bldv (i := ((s45 3016) - 1)) (v := (c46 35 (((s45 3016) - 1)).toNat)) rfl rfl (by omega) rfl ?_
        show tt Zi d 177 (70, [some (.inr (.inl 30)), some (.inl 1), some (.inl 8)], [.inl ((c46 35 (((s45 3016) - 1)).toNat))], n, D, s45, p, c46) _
        have b55 : -128 ≤ (c46 35 (((s45 3016) - 1)).toNat) ∧ (c46 35 (((s45 3016) - 1)).toNat) ≤ 127 := hC46 35 _
        refine tt_k 3 (S' := (77, [some (.inr (.inl 30)), some (.inl 1), some (.inl 8)], [.inl 255, .inl ((mi_and (c46 35 (((s45 3016) - 1)).toNat) 255))], n, D, s45, p, c46)) rfl ?_
        have e56 := mi_and255 ((c46 35 (((s45 3016) - 1)).toNat))
        refine tb_ne (x := (mi_and (c46 35 (((s45 3016) - 1)).toNat) 255)) (y := 255) rfl rfl (by omega) (fun h57 => ?_) (fun h57 => ?_)
        · show tt Zi d 177 (84, [some (.inr (.inl 30)), some (.inl 1), some (.inl 8)], [], n, D, s45, p, c46) _
          refine tt_k 3 (S' := (87, [some (.inr (.inl 30)), some (.inl 0), some (.inl 8)], [.inl 0], n, D, s45, p, c46)) rfl ?_
          refine tz_eq (x := 0) rfl rfl (by omega) (fun h58 => ?_) (fun h58 => ?_)
          · show tt Zi d 177 (95, [some (.inr (.inl 30)), some (.inl 0), some (.inl 8)], [], n, D, s45, p, c46) _
            exact tt_rtv rfl rfl ⟨s45, c46, rfl, rfl, hS45, hC46, (fr_tr fr_rf f47 (by decide)), (frc_tr frc_rf g48 (by decide)), by show s 3016 ≤ (s45 3016) ∧ (s45 3016) ≤ s 3016 + 9; omega, by show wrb (wFin W) ((s45 3016)) ((c46 35)); exact hwf⟩
          · exfalso; omega
        · show tt Zi d 177 (80, [some (.inr (.inl 30)), some (.inl 1), some (.inl 8)], [], n, D, s45, p, c46) _
          refine tt_k 4 (S' := (87, [some (.inr (.inl 30)), some (.inl 1), some (.inl 8)], [.inl 1], n, D, s45, p, c46)) rfl ?_
          refine tz_eq (x := 1) rfl rfl (by omega) (fun h59 => ?_) (fun h59 => ?_)
          · exfalso; omega
          · show tt Zi d 177 (90, [some (.inr (.inl 30)), some (.inl 1), some (.inl 8)], [], n, D, s45, p, c46) _
            refine tt_k 2 (S' := (92, [some (.inr (.inl 30)), some (.inl 1), some (.inl 8)], [.inl 0, .inr (.inl 30)], n, D, s45, p, c46)) rfl ?_
            refine tt_cl (by omega) rfl (y_add (Zi := Zi) (D := D) (s := s45) (p := p) (c := c46) (by omega) hS45 hC46 (wFin W) 0 (by omega) (show (s45 3016) ≤ 65535 by omega) hwf) ?_
            rintro _ _ ⟨s60, c61, rfl, rfl, hS60, hC61, f62, g63, k64, k65⟩
            show tt Zi d 177 (95, [some (.inr (.inl 30)), some (.inl 1), some (.inl 8)], [], n, D, s60, p, c61) _
            replace k64 : (s60 3016) = (s45 3016) + 1 := k64
            replace k65 : wrb (wAdd (wFin W) 0) ((s60 3016)) ((c61 35)) := k65
            have b66 : 0 ≤ (s60 3016) ∧ (s60 3016) ≤ 65536 := hS60 3016
            exact tt_rtv rfl rfl ⟨s60, c61, rfl, rfl, hS60, hC61, (fr_tr (fr_tr fr_rf f47 (by decide)) f62 (by decide)), (frc_tr (frc_tr frc_rf g48 (by decide)) g63 (by decide)), by show s 3016 ≤ (s60 3016) ∧ (s60 3016) ≤ s 3016 + 9; omega, by show wrb (wFin W) ((s60 3016)) ((c61 35)); exfalso; omega⟩
set_option maxRecDepth 100000 in
set_option maxHeartbeats 4000000 in
theorem k_plain2 {Zi : Nat → Option (Nat × (Nat → Int))} {d n : Nat} {D : Nat → Nat × Nat} {s : Nat → Int} {p : Nat → Nat} {c : Nat → Nat → Int} (hd : 0 ≤ d) (hS : bS s) (hC : bC D c) (v : Int) (l_ : Int) (b_v : -2147483648 ≤ v ∧ v ≤ 2147483647) (b_l_ : -2147483648 ≤ l_ ∧ l_ ≤ 2147483647) : tt Zi d 145 (0, [some (.inr (.inl 30)), some (.inl v), some (.inl l_)], [], n, D, s, p, c) (fun R H => ∃ (r : Int), R = .inl (some (.inl r)) ∧ H = (n, D, s, p, c) ∧ (-2147483648 ≤ r ∧ r ≤ 2147483647) ∧ (r = zPl v l_ (s 3017))) := by
  refine tt_k 2 (S' := (2, [some (.inr (.inl 30)), some (.inl v), some (.inl l_)], [.inl l_, .inl v], n, D, s, p, c)) rfl ?_
  refine tb_lt (x := v) (y := l_) rfl rfl (by omega) (fun h1 => ?_) (fun h1 => ?_)
  · show tt Zi d 145 (13, [some (.inr (.inl 30)), some (.inl v), some (.inl l_)], [], n, D, s, p, c) _
    refine tt_k 2 (S' := (18, [some (.inr (.inl 30)), some (.inl v), some (.inl l_)], [.inl l_], n, D, s, p, c)) rfl ?_
    exact tt_rti rfl rfl ⟨l_, rfl, rfl, by omega, by show l_ = zPl v l_ (s 3017); unfold zPl; first | rw [if_pos (by omega)] | rw [if_neg (by omega)]⟩
  · show tt Zi d 145 (5, [some (.inr (.inl 30)), some (.inl v), some (.inl l_)], [], n, D, s, p, c) _
    refine tt_k 3 (S' := (10, [some (.inr (.inl 30)), some (.inl v), some (.inl l_)], [.inl (s 3017), .inl v], n, D, s, p, c)) rfl ?_
    have b2 : 0 ≤ (s 3017) ∧ (s 3017) ≤ 65535 := hS 3017
    refine tb_le (x := v) (y := (s 3017)) rfl rfl (by omega) (fun h3 => ?_) (fun h3 => ?_)
    · show tt Zi d 145 (17, [some (.inr (.inl 30)), some (.inl v), some (.inl l_)], [], n, D, s, p, c) _
      refine tt_k 1 (S' := (18, [some (.inr (.inl 30)), some (.inl v), some (.inl l_)], [.inl v], n, D, s, p, c)) rfl ?_
      exact tt_rti rfl rfl ⟨v, rfl, rfl, by omega, by show v = zPl v l_ (s 3017); unfold zPl; first | rw [if_pos (by omega)] | rw [if_neg (by omega)]⟩
    · show tt Zi d 145 (13, [some (.inr (.inl 30)), some (.inl v), some (.inl l_)], [], n, D, s, p, c) _
      refine tt_k 2 (S' := (18, [some (.inr (.inl 30)), some (.inl v), some (.inl l_)], [.inl l_], n, D, s, p, c)) rfl ?_
      exact tt_rti rfl rfl ⟨l_, rfl, rfl, by omega, by show l_ = zPl v l_ (s 3017); unfold zPl; first | rw [if_pos (by omega)] | rw [if_neg (by omega)]⟩
set_option maxRecDepth 100000 in
set_option maxHeartbeats 4000000 in
theorem x_measCP_L329 {Zi : Nat → Option (Nat × (Nat → Int))} {d n : Nat} {D : Nat → Nat × Nat} {s : Nat → Int} {p : Nat → Nat} {c : Nat → Nat → Int} {o_1 : Option mi_V} {o_2 : Option mi_V} {o_3 : Option mi_V} {o_4 : Option mi_V} {o_5 : Option mi_V} {o_6 : Option mi_V} {Q : mi_Rs → mi_H → Prop} (hd : 2 ≤ d) (hS : bS s) (hC : bC D c) (hq0 : s 3024 ≤ 65537)
  (hK : ∀ (s0 : Nat → Int) (hS0 : bS s0) (hF0 : fr s s0 [3025]) (i0 : s0 3025 = 0 ∨ 2 ^ (s0 3025 - 1).toNat < s 3024) (i1 : 0 ≤ s0 3025 ∧ s0 3025 ≤ 17), (s 3024 ≤ 2 ^ (s0 3025).toNat) → tt Zi d 144 (355, [some (.inr (.inl 30)), o_1, o_2, o_3, o_4, o_5, o_6], [], n, D, s0, p, c) Q) :
  ∀ (m : Nat) (s0 : Nat → Int) (hS0 : bS s0) (hF0 : fr s s0 [3025]) (i0 : s0 3025 = 0 ∨ 2 ^ (s0 3025 - 1).toNat < s 3024) (i1 : 0 ≤ s0 3025 ∧ s0 3025 ≤ 17), (18 - s0 3025).toNat < m → tt Zi d 144 (329, [some (.inr (.inl 30)), o_1, o_2, o_3, o_4, o_5, o_6], [], n, D, s0, p, c) Q := by
  intro m
  induction m with
  | zero => intro s0 hS0 hF0 i0 i1 hm; exact absurd hm (by omega)
  | succ m ih =>
    intro s0 hS0 hF0 i0 i1 hm
    have e1 : s0 3017 = s 3017 := hF0 3017 (by decide)
    have b2 : 0 ≤ (s0 3017) ∧ (s0 3017) ≤ 65535 := hS0 3017
    have b3 : 0 ≤ (s 3017) ∧ (s 3017) ≤ 65535 := hS 3017
    have e4 : s0 3018 = s 3018 := hF0 3018 (by decide)
    have b5 : -2147483648 ≤ (s0 3018) ∧ (s0 3018) ≤ 2147483647 := hS0 3018
    have b6 : -2147483648 ≤ (s 3018) ∧ (s 3018) ≤ 2147483647 := hS 3018
    have e7 : s0 3019 = s 3019 := hF0 3019 (by decide)
    have b8 : -2147483648 ≤ (s0 3019) ∧ (s0 3019) ≤ 2147483647 := hS0 3019
    have b9 : -2147483648 ≤ (s 3019) ∧ (s 3019) ≤ 2147483647 := hS 3019
    have e10 : s0 3020 = s 3020 := hF0 3020 (by decide)
    have b11 : -2147483648 ≤ (s0 3020) ∧ (s0 3020) ≤ 2147483647 := hS0 3020
    have b12 : -2147483648 ≤ (s 3020) ∧ (s 3020) ≤ 2147483647 := hS 3020
    have e13 : s0 3021 = s 3021 := hF0 3021 (by decide)
    have b14 : -2147483648 ≤ (s0 3021) ∧ (s0 3021) ≤ 2147483647 := hS0 3021
    have b15 : -2147483648 ≤ (s 3021) ∧ (s 3021) ≤ 2147483647 := hS 3021
    have e16 : s0 3022 = s 3022 := hF0 3022 (by decide)
    have b17 : 0 ≤ (s0 3022) ∧ (s0 3022) ≤ 65535 := hS0 3022
    have b18 : 0 ≤ (s 3022) ∧ (s 3022) ≤ 65535 := hS 3022
    have e19 : s0 3023 = s 3023 := hF0 3023 (by decide)
    have b20 : -2147483648 ≤ (s0 3023) ∧ (s0 3023) ≤ 2147483647 := hS0 3023
    have b21 : -2147483648 ≤ (s 3023) ∧ (s 3023) ≤ 2147483647 := hS 3023
    have e22 : s0 3024 = s 3024 := hF0 3024 (by decide)
    have b23 : -2147483648 ≤ (s0 3024) ∧ (s0 3024) ≤ 2147483647 := hS0 3024
    have b24 : -2147483648 ≤ (s 3024) ∧ (s 3024) ≤ 2147483647 := hS 3024
    refine tt_k 6 (S' := (339, [some (.inr (.inl 30)), o_1, o_2, o_3, o_4, o_5, o_6], [.inl (s0 3024), .inl (mi_shl 1 (s0 3025))], n, D, s0, p, c)) rfl ?_
    have b25 : 0 ≤ (s0 3025) ∧ (s0 3025) ≤ 31 := hS0 3025
    have e26 : 1 ≤ (mi_shl 1 (s0 3025)) ∧ (mi_shl 1 (s0 3025)) ≤ 131072 := mi_shl1b 0 17 (by omega) (by omega) (by decide)
    refine tb_ge (x := (mi_shl 1 (s0 3025))) (y := (s0 3024)) rfl rfl (by omega) (fun h27 => ?_) (fun h27 => ?_)
    · show tt Zi d 144 (355, [some (.inr (.inl 30)), o_1, o_2, o_3, o_4, o_5, o_6], [], n, D, s0, p, c) _
      exact hK s0 hS0 hF0 i0 i1 (by have hsh := mi_shl1i (k := s0 3025) (by omega) (by omega); omega)
    · show tt Zi d 144 (342, [some (.inr (.inl 30)), o_1, o_2, o_3, o_4, o_5, o_6], [], n, D, s0, p, c) _
      refine tt_k 7 (S' := (329, [some (.inr (.inl 30)), o_1, o_2, o_3, o_4, o_5, o_6], [], n, D, (us s0 3025 ((s0 3025) + 1)), p, c)) rfl ?_
      have hsh := mi_shl1i (k := s0 3025) (by omega) (by omega)
      have hq16 := pw_17 (q := s0 3025) (by omega) (by omega)
      exact ih  (us s0 3025 ((s0 3025) + 1)) (bS_us hS0 (show 0 ≤ ((s0 3025) + 1) ∧ ((s0 3025) + 1) ≤ 31 by omega)) (fr_us (by decide) hF0) (Or.inr (by show 2 ^ (s0 3025 + 1 - 1).toNat < _; rw [Int.add_sub_cancel]; omega)) (show 0 ≤ ((s0 3025) + 1) ∧ ((s0 3025) + 1) ≤ 17 by omega) (show (18 - ((s0 3025) + 1)).toNat < m by omega)

set_option maxRecDepth 100000 in
set_option maxHeartbeats 4000000 in
theorem x_measCP_L358 {Zi : Nat → Option (Nat × (Nat → Int))} {d n : Nat} {D : Nat → Nat × Nat} {s : Nat → Int} {p : Nat → Nat} {c : Nat → Nat → Int} {o_1 : Option mi_V} {o_2 : Option mi_V} {o_3 : Option mi_V} {o_4 : Option mi_V} {o_6 : Option mi_V} {Q : mi_Rs → mi_H → Prop} (hd : 2 ≤ d) (hS : bS s) (hC : bC D c) (hq0 : s 3017 ≤ 65535)
  (hK : ∀ (b : Int) (b_b : 2 ≤ b ∧ b ≤ 16) (i0 : b = 2 ∨ 2 ^ (b - 1).toNat ≤ s 3017), (s 3017 < 2 ^ b.toNat) → tt Zi d 144 (375, [some (.inr (.inl 30)), o_1, o_2, o_3, o_4, some (.inl b), o_6], [], n, D, s, p, c) Q) :
  ∀ (m : Nat) (b : Int) (b_b : 2 ≤ b ∧ b ≤ 16) (i0 : b = 2 ∨ 2 ^ (b - 1).toNat ≤ s 3017), (16 - b).toNat < m → tt Zi d 144 (358, [some (.inr (.inl 30)), o_1, o_2, o_3, o_4, some (.inl b), o_6], [], n, D, s, p, c) Q := by
  intro m
  induction m with
  | zero => intro b b_b i0 hm; exact absurd hm (by omega)
  | succ m ih =>
    intro b b_b i0 hm
    refine tt_k 5 (S' := (366, [some (.inr (.inl 30)), o_1, o_2, o_3, o_4, some (.inl b), o_6], [.inl (s 3017), .inl (mi_shl 1 b)], n, D, s, p, c)) rfl ?_
    have e1 : 4 ≤ (mi_shl 1 b) ∧ (mi_shl 1 b) ≤ 65536 := mi_shl1b 2 16 (by omega) (by omega) (by decide)
    have b2 : 0 ≤ (s 3017) ∧ (s 3017) ≤ 65535 := hS 3017
    refine tb_gt (x := (mi_shl 1 b)) (y := (s 3017)) rfl rfl (by omega) (fun h3 => ?_) (fun h3 => ?_)
    · show tt Zi d 144 (375, [some (.inr (.inl 30)), o_1, o_2, o_3, o_4, some (.inl b), o_6], [], n, D, s, p, c) _
      exact hK b (by omega) i0 (by have hsh := mi_shl1i (k := b) (by omega) (by omega); omega)
    · show tt Zi d 144 (369, [some (.inr (.inl 30)), o_1, o_2, o_3, o_4, some (.inl b), o_6], [], n, D, s, p, c) _
      refine tt_k 2 (S' := (358, [some (.inr (.inl 30)), o_1, o_2, o_3, o_4, some (.inl (b + 1)), o_6], [], n, D, s, p, c)) rfl ?_
      have hsh := mi_shl1i (k := b) (by omega) (by omega)
      have hb16 := pw_17 (q := b) (by omega) (by omega)
      have hb15 : b ≤ 15 := by have e : b = 16 → (2 : Int) ^ b.toNat = 65536 := (by intro hq; rw [hq]; decide); omega
      exact ih (b + 1)  (by omega) (Or.inr (by rw [Int.add_sub_cancel]; omega)) (show (16 - (b + 1)).toNat < m by omega)
set_option maxRecDepth 100000 in
set_option maxHeartbeats 4000000 in
theorem x_measCP {Zi : Nat → Option (Nat × (Nat → Int))} {d n : Nat} {D : Nat → Nat × Nat} {s : Nat → Int} {p : Nat → Nat} {c : Nat → Nat → Int} (hd : 2 ≤ d) (hS : bS s) (hC : bC D c) (bits : Int) (nr : Int) (top : Int) (f_ : Int) (b_bits : 2 ≤ bits ∧ bits ≤ 16) (b_nr : 0 ≤ nr ∧ nr ≤ 255) (b_top : 3 ≤ top ∧ top ≤ 65535) (hp0 : s 3018 = nr) (hp1 : s 3017 = (zMo (c 32 0) bits)) (hp2 : s 3019 = zPt 3 2 3 (zMo (c 32 0) bits) nr) (hp3 : s 3020 = zPt 7 3 5 (zMo (c 32 0) bits) nr) (hp4 : s 3021 = zPt 21 4 7 (zMo (c 32 0) bits) nr) (hp5 : s 3022 = zHa (c 32 4)) (hp6 : top = 2 ^ bits.toNat - 1) : tt Zi d 144 (204, [some (.inr (.inl 30)), some (.inr (.inl 32)), some (.inl bits), some (.inl nr), some (.inl top), some (.inl f_), none], [], n, D, s, p, c) (fun R H => ∃ (s' : Nat → Int) (r : Int), R = .inl (some (.inl r)) ∧ H = (n, D, s', p, c) ∧ bS s' ∧ fr s s' [3017, 3018, 3019, 3020, 3021, 3022, 3023, 3024, 3025, 3026] ∧ (0 ≤ r ∧ r ≤ 1) ∧ ((r = 1 ∧ VM (c 32 0) (c 32 1) (c 32 2) (c 32 3) (c 32 4) bits nr ∧ zq (ZM (c 32 0) (c 32 1) (c 32 2) (c 32 3) (c 32 4) bits nr) (s' 3017) (s' 3018) (s' 3019) (s' 3020) (s' 3021) (s' 3022) (s' 3023) (s' 3024) (s' 3025) (s' 3026)) ∨ (r = 0 ∧ ¬ VM (c 32 0) (c 32 1) (c 32 2) (c 32 3) (c 32 4) bits nr))) := by
  have r0_ : c 32 (0 : Int).toNat = c 32 0 := rfl
  have r1_ : c 32 (1 : Int).toNat = c 32 1 := rfl
  have r2_ : c 32 (2 : Int).toNat = c 32 2 := rfl
  have r3_ : c 32 (3 : Int).toNat = c 32 3 := rfl
  have r4_ : c 32 (4 : Int).toNat = c 32 4 := rfl
  have hmb := zMo_bd (f0 := c 32 0) (b := bits) (hC 32 0) (by omega)
  have hrp := rg_pos (mo := s 3017) (n := s 3018) (by omega) (by omega)
  unfold zRg at hrp
  have hbd := pw_bits (b := bits) (by omega)
  refine tt_k 3 (S' := (207, [some (.inr (.inl 30)), some (.inr (.inl 32)), some (.inl bits), some (.inl nr), some (.inl top), some (.inl f_), none], [.inl 1, .inr (.inl 32), .inr (.inl 30)], n, D, s, p, c)) rfl ?_
  refine tt_ildv (i := 1) (v := (c 32 (1 : Int).toNat)) rfl rfl (by omega) rfl ?_
  show tt Zi d 144 (208, [some (.inr (.inl 30)), some (.inr (.inl 32)), some (.inl bits), some (.inl nr), some (.inl top), some (.inl f_), none], [.inl (c 32 (1 : Int).toNat), .inr (.inl 30)], n, D, s, p, c) _
  have b1 : 0 ≤ (c 32 (1 : Int).toNat) ∧ (c 32 (1 : Int).toNat) ≤ 65535 := hC 32 _
  have K3 : ∀ (j2 : Int) , (-2147483648 ≤ j2 ∧ j2 ≤ 2147483647) → (j2 = (zT1 (c 32 1) (zMo (c 32 0) bits) nr)) → (True) → tt Zi d 144 (231, [some (.inr (.inl 30)), some (.inr (.inl 32)), some (.inl bits), some (.inl nr), some (.inl top), some (.inl f_), none], [.inl j2, .inr (.inl 30)], n, D, s, p, c) (fun R H => ∃ (s' : Nat → Int) (r : Int), R = .inl (some (.inl r)) ∧ H = (n, D, s', p, c) ∧ bS s' ∧ fr s s' [3017, 3018, 3019, 3020, 3021, 3022, 3023, 3024, 3025, 3026] ∧ (0 ≤ r ∧ r ≤ 1) ∧ ((r = 1 ∧ VM (c 32 0) (c 32 1) (c 32 2) (c 32 3) (c 32 4) bits nr ∧ zq (ZM (c 32 0) (c 32 1) (c 32 2) (c 32 3) (c 32 4) bits nr) (s' 3017) (s' 3018) (s' 3019) (s' 3020) (s' 3021) (s' 3022) (s' 3023) (s' 3024) (s' 3025) (s' 3026)) ∨ (r = 0 ∧ ¬ VM (c 32 0) (c 32 1) (c 32 2) (c 32 3) (c 32 4) bits nr))) := by
    intro j2 b5 b6 hj4
    refine tt_k 4 (S' := (237, [some (.inr (.inl 30)), some (.inr (.inl 32)), some (.inl bits), some (.inl nr), some (.inl top), some (.inl f_), none], [.inl 2, .inr (.inl 32), .inr (.inl 30)], n, D, (us s 3019 j2), p, c)) rfl ?_
    refine tt_ildv (i := 2) (v := (c 32 (2 : Int).toNat)) rfl rfl (by omega) rfl ?_
    show tt Zi d 144 (238, [some (.inr (.inl 30)), some (.inr (.inl 32)), some (.inl bits), some (.inl nr), some (.inl top), some (.inl f_), none], [.inl (c 32 (2 : Int).toNat), .inr (.inl 30)], n, D, (us s 3019 j2), p, c) _
    have b7 : 0 ≤ (c 32 (2 : Int).toNat) ∧ (c 32 (2 : Int).toNat) ≤ 65535 := hC 32 _
    have K9 : ∀ (j8 : Int) , (-2147483648 ≤ j8 ∧ j8 ≤ 2147483647) → (j8 = (zT2 (c 32 2) (zT1 (c 32 1) (zMo (c 32 0) bits) nr) (zMo (c 32 0) bits) nr)) → (True) → tt Zi d 144 (259, [some (.inr (.inl 30)), some (.inr (.inl 32)), some (.inl bits), some (.inl nr), some (.inl top), some (.inl f_), none], [.inl j8, .inr (.inl 30)], n, D, (us s 3019 j2), p, c) (fun R H => ∃ (s' : Nat → Int) (r : Int), R = .inl (some (.inl r)) ∧ H = (n, D, s', p, c) ∧ bS s' ∧ fr s s' [3017, 3018, 3019, 3020, 3021, 3022, 3023, 3024, 3025, 3026] ∧ (0 ≤ r ∧ r ≤ 1) ∧ ((r = 1 ∧ VM (c 32 0) (c 32 1) (c 32 2) (c 32 3) (c 32 4) bits nr ∧ zq (ZM (c 32 0) (c 32 1) (c 32 2) (c 32 3) (c 32 4) bits nr) (s' 3017) (s' 3018) (s' 3019) (s' 3020) (s' 3021) (s' 3022) (s' 3023) (s' 3024) (s' 3025) (s' 3026)) ∨ (r = 0 ∧ ¬ VM (c 32 0) (c 32 1) (c 32 2) (c 32 3) (c 32 4) bits nr))) := by
      intro j8 b11 b12 hj10
      refine tt_k 4 (S' := (265, [some (.inr (.inl 30)), some (.inr (.inl 32)), some (.inl bits), some (.inl nr), some (.inl top), some (.inl f_), none], [.inl 3, .inr (.inl 32), .inr (.inl 30)], n, D, (us (us s 3019 j2) 3020 j8), p, c)) rfl ?_
      refine tt_ildv (i := 3) (v := (c 32 (3 : Int).toNat)) rfl rfl (by omega) rfl ?_
      show tt Zi d 144 (266, [some (.inr (.inl 30)), some (.inr (.inl 32)), some (.inl bits), some (.inl nr), some (.inl top), some (.inl f_), none], [.inl (c 32 (3 : Int).toNat), .inr (.inl 30)], n, D, (us (us s 3019 j2) 3020 j8), p, c) _
      have b13 : 0 ≤ (c 32 (3 : Int).toNat) ∧ (c 32 (3 : Int).toNat) ≤ 65535 := hC 32 _
      have K15 : ∀ (j14 : Int) , (-2147483648 ≤ j14 ∧ j14 ≤ 2147483647) → (j14 = (zT3 (c 32 3) (zT2 (c 32 2) (zT1 (c 32 1) (zMo (c 32 0) bits) nr) (zMo (c 32 0) bits) nr) (zMo (c 32 0) bits) nr)) → (True) → tt Zi d 144 (287, [some (.inr (.inl 30)), some (.inr (.inl 32)), some (.inl bits), some (.inl nr), some (.inl top), some (.inl f_), none], [.inl j14, .inr (.inl 30)], n, D, (us (us s 3019 j2) 3020 j8), p, c) (fun R H => ∃ (s' : Nat → Int) (r : Int), R = .inl (some (.inl r)) ∧ H = (n, D, s', p, c) ∧ bS s' ∧ fr s s' [3017, 3018, 3019, 3020, 3021, 3022, 3023, 3024, 3025, 3026] ∧ (0 ≤ r ∧ r ≤ 1) ∧ ((r = 1 ∧ VM (c 32 0) (c 32 1) (c 32 2) (c 32 3) (c 32 4) bits nr ∧ zq (ZM (c 32 0) (c 32 1) (c 32 2) (c 32 3) (c 32 4) bits nr) (s' 3017) (s' 3018) (s' 3019) (s' 3020) (s' 3021) (s' 3022) (s' 3023) (s' 3024) (s' 3025) (s' 3026)) ∨ (r = 0 ∧ ¬ VM (c 32 0) (c 32 1) (c 32 2) (c 32 3) (c 32 4) bits nr))) := by
        intro j14 b17 b18 hj16
        refine tt_k 14 (S' := (309, [some (.inr (.inl 30)), some (.inr (.inl 32)), some (.inl bits), some (.inl nr), some (.inl top), some (.inl f_), none], [.inr (.inl 30), .inl 2, .inl (s 3017), .inr (.inl 30)], n, D, (us (us (us (us s 3019 j2) 3020 j8) 3021 j14) 3023 (((2 * (s 3018)) + 1))), p, c)) rfl ?_
        refine tt_k 5 (S' := (318, [some (.inr (.inl 30)), some (.inr (.inl 32)), some (.inl bits), some (.inl nr), some (.inl top), some (.inl f_), none], [.inl (((2 * (s 3018)) + 1)), .inl (((s 3017) + (2 * (s 3018)))), .inr (.inl 30)], n, D, (us (us (us (us s 3019 j2) 3020 j8) 3021 j14) 3023 (((2 * (s 3018)) + 1))), p, c)) rfl ?_
        have b19 : 0 ≤ (s 3017) ∧ (s 3017) ≤ 65535 := hS 3017
        have b20 : -2147483648 ≤ (s 3018) ∧ (s 3018) ≤ 2147483647 := hS 3018
        refine tt_dvp (x := ((s 3017) + (2 * (s 3018)))) (y := ((2 * (s 3018)) + 1)) rfl (by omega) ?_
        show tt Zi d 144 (319, [some (.inr (.inl 30)), some (.inr (.inl 32)), some (.inl bits), some (.inl nr), some (.inl top), some (.inl f_), none], [.inl ((((s 3017) + (2 * (s 3018))) / ((2 * (s 3018)) + 1))), .inr (.inl 30)], n, D, (us (us (us (us s 3019 j2) 3020 j8) 3021 j14) 3023 (((2 * (s 3018)) + 1))), p, c) _
        have b21 : 0 ≤ (((s 3017) + (2 * (s 3018))) / ((2 * (s 3018)) + 1)) ∧ (((s 3017) + (2 * (s 3018))) / ((2 * (s 3018)) + 1)) ≤ ((s 3017) + (2 * (s 3018))) := td_le (by omega) (by omega)
        refine tt_k 6 (S' := (329, [some (.inr (.inl 30)), some (.inr (.inl 32)), some (.inl bits), some (.inl nr), some (.inl top), some (.inl f_), none], [], n, D, (us (us (us (us (us (us s 3019 j2) 3020 j8) 3021 j14) 3023 (((2 * (s 3018)) + 1))) 3024 (((((s 3017) + (2 * (s 3018))) / ((2 * (s 3018)) + 1)) + 1))) 3025 0), p, c)) rfl ?_
        refine x_measCP_L329 (Zi := Zi) (D := D) (s := (us (us (us (us (us (us s 3019 j2) 3020 j8) 3021 j14) 3023 (((2 * (s 3018)) + 1))) 3024 (((((s 3017) + (2 * (s 3018))) / ((2 * (s 3018)) + 1)) + 1))) 3025 0)) (p := p) (c := c) hd (bS_us (bS_us (bS_us (bS_us (bS_us (bS_us hS (show -2147483648 ≤ j2 ∧ j2 ≤ 2147483647 by omega)) (show -2147483648 ≤ j8 ∧ j8 ≤ 2147483647 by omega)) (show -2147483648 ≤ j14 ∧ j14 ≤ 2147483647 by omega)) (show -2147483648 ≤ ((2 * (s 3018)) + 1) ∧ ((2 * (s 3018)) + 1) ≤ 2147483647 by omega)) (show -2147483648 ≤ ((((s 3017) + (2 * (s 3018))) / ((2 * (s 3018)) + 1)) + 1) ∧ ((((s 3017) + (2 * (s 3018))) / ((2 * (s 3018)) + 1)) + 1) ≤ 2147483647 by omega)) (show 0 ≤ 0 ∧ 0 ≤ 31 by omega)) hC   (show (((((s 3017) + (2 * (s 3018))) / ((2 * (s 3018)) + 1)) + 1)) ≤ 65537 by omega) ?_ _  (us (us (us (us (us (us s 3019 j2) 3020 j8) 3021 j14) 3023 (((2 * (s 3018)) + 1))) 3024 (((((s 3017) + (2 * (s 3018))) / ((2 * (s 3018)) + 1)) + 1))) 3025 0) (bS_us (bS_us (bS_us (bS_us (bS_us (bS_us hS (show -2147483648 ≤ j2 ∧ j2 ≤ 2147483647 by omega)) (show -2147483648 ≤ j8 ∧ j8 ≤ 2147483647 by omega)) (show -2147483648 ≤ j14 ∧ j14 ≤ 2147483647 by omega)) (show -2147483648 ≤ ((2 * (s 3018)) + 1) ∧ ((2 * (s 3018)) + 1) ≤ 2147483647 by omega)) (show -2147483648 ≤ ((((s 3017) + (2 * (s 3018))) / ((2 * (s 3018)) + 1)) + 1) ∧ ((((s 3017) + (2 * (s 3018))) / ((2 * (s 3018)) + 1)) + 1) ≤ 2147483647 by omega)) (show 0 ≤ 0 ∧ 0 ≤ 31 by omega)) fr_rf (Or.inl rfl) (show (0 : Int) ≤ 0 ∧ (0 : Int) ≤ 17 by decide) (Nat.lt_succ_self _)
        intro s22 hS22 f23 i24 i25 hx26
        show tt Zi d 144 (355, [some (.inr (.inl 30)), some (.inr (.inl 32)), some (.inl bits), some (.inl nr), some (.inl top), some (.inl f_), none], [], n, D, s22, p, c) _
        have e27 : s22 3017 = (s 3017) := (f23 3017 (by decide))
        have b28 : 0 ≤ (s22 3017) ∧ (s22 3017) ≤ 65535 := hS22 3017
        have e29 : s22 3018 = (s 3018) := (f23 3018 (by decide))
        have b30 : -2147483648 ≤ (s22 3018) ∧ (s22 3018) ≤ 2147483647 := hS22 3018
        have e31 : s22 3019 = j2 := (f23 3019 (by decide))
        have b32 : -2147483648 ≤ (s22 3019) ∧ (s22 3019) ≤ 2147483647 := hS22 3019
        have e33 : s22 3020 = j8 := (f23 3020 (by decide))
        have b34 : -2147483648 ≤ (s22 3020) ∧ (s22 3020) ≤ 2147483647 := hS22 3020
        have e35 : s22 3021 = j14 := (f23 3021 (by decide))
        have b36 : -2147483648 ≤ (s22 3021) ∧ (s22 3021) ≤ 2147483647 := hS22 3021
        have e37 : s22 3022 = (s 3022) := (f23 3022 (by decide))
        have b38 : 0 ≤ (s22 3022) ∧ (s22 3022) ≤ 65535 := hS22 3022
        have b39 : 0 ≤ (s 3022) ∧ (s 3022) ≤ 65535 := hS 3022
        have e40 : s22 3023 = ((2 * (s 3018)) + 1) := (f23 3023 (by decide))
        have b41 : -2147483648 ≤ (s22 3023) ∧ (s22 3023) ≤ 2147483647 := hS22 3023
        have e42 : s22 3024 = ((((s 3017) + (2 * (s 3018))) / ((2 * (s 3018)) + 1)) + 1) := (f23 3024 (by decide))
        have b43 : -2147483648 ≤ (s22 3024) ∧ (s22 3024) ≤ 2147483647 := hS22 3024
        have hke : s22 3025 = ke (((((s 3017) + (2 * (s 3018))) / ((2 * (s 3018)) + 1)) + 1)) 1 := ke_eq (by decide) (by omega) (by rw [Int.one_mul]; exact hx26) (by rw [Int.one_mul]; exact i24)
        refine tt_k 2 (S' := (358, [some (.inr (.inl 30)), some (.inr (.inl 32)), some (.inl bits), some (.inl nr), some (.inl top), some (.inl 2), none], [], n, D, s22, p, c)) rfl ?_
        refine x_measCP_L358 (Zi := Zi) (D := D) (s := s22) (p := p) (c := c) hd hS22 hC   (show (s22 3017) ≤ 65535 by omega) ?_ _ 2  (by omega) (Or.inl rfl) (Nat.lt_succ_self _)
        intro x44 b45 i46 hx47
        show tt Zi d 144 (375, [some (.inr (.inl 30)), some (.inr (.inl 32)), some (.inl bits), some (.inl nr), some (.inl top), some (.inl x44), none], [], n, D, s22, p, c) _
        have hbo : x44 = zBo (s 3017) := by rw [← show (s22 3017) = s 3017 by omega]; exact bo_eq (by omega) hx47 i46 (by omega)
        refine tt_k 5 (S' := (383, [some (.inr (.inl 30)), some (.inr (.inl 32)), some (.inl bits), some (.inl nr), some (.inl top), some (.inl x44), none], [.inl x44, .inl 8, .inl x44, .inl 2, .inr (.inl 30)], n, D, s22, p, c)) rfl ?_
        refine tt_cl (by omega) rfl (k_more (Zi := Zi) (D := D) (s := s22) (p := p) (c := c) (by omega) hS22 hC 8 x44 (by omega) (by omega)) ?_
        rintro _ _ ⟨r48, rfl, rfl, b49, k50⟩
        show tt Zi d 144 (386, [some (.inr (.inl 30)), some (.inr (.inl 32)), some (.inl bits), some (.inl nr), some (.inl top), some (.inl x44), none], [.inl r48, .inl x44, .inl 2, .inr (.inl 30)], n, D, s22, p, c) _
        replace k50 : r48 = max 8 x44 := k50
        subst k50
        show tt Zi d 144 (386, [some (.inr (.inl 30)), some (.inr (.inl 32)), some (.inl bits), some (.inl nr), some (.inl top), some (.inl x44), none], [.inl (max 8 x44), .inl x44, .inl 2, .inr (.inl 30)], n, D, s22, p, c) _
        refine tt_k 9 (S' := (401, [some (.inr (.inl 30)), some (.inr (.inl 32)), some (.inl bits), some (.inl nr), some (.inl top), some (.inl x44), none], [.inl (s22 3019), .inl ((s22 3018) + 1)], n, D, (us s22 3026 ((2 * (x44 + (max 8 x44))))), p, c)) rfl ?_
        have K52 : ∀ (j51 : Int) , (0 ≤ j51 ∧ j51 ≤ 1) → (j51 = 1 ↔ (((s22 3018) + 1) ≤ (s22 3019) ∧ (s22 3019) ≤ (s22 3020) ∧ (s22 3020) ≤ (s22 3021) ∧ (s22 3021) ≤ (s22 3017))) → (True) → tt Zi d 144 (442, [some (.inr (.inl 30)), some (.inr (.inl 32)), some (.inl bits), some (.inl nr), some (.inl top), some (.inl x44), none], [.inl j51], n, D, (us s22 3026 ((2 * (x44 + (max 8 x44))))), p, c) (fun R H => ∃ (s' : Nat → Int) (r : Int), R = .inl (some (.inl r)) ∧ H = (n, D, s', p, c) ∧ bS s' ∧ fr s s' [3017, 3018, 3019, 3020, 3021, 3022, 3023, 3024, 3025, 3026] ∧ (0 ≤ r ∧ r ≤ 1) ∧ ((r = 1 ∧ VM (c 32 0) (c 32 1) (c 32 2) (c 32 3) (c 32 4) bits nr ∧ zq (ZM (c 32 0) (c 32 1) (c 32 2) (c 32 3) (c 32 4) bits nr) (s' 3017) (s' 3018) (s' 3019) (s' 3020) (s' 3021) (s' 3022) (s' 3023) (s' 3024) (s' 3025) (s' 3026)) ∨ (r = 0 ∧ ¬ VM (c 32 0) (c 32 1) (c 32 2) (c 32 3) (c 32 4) bits nr))) := by
          intro j51 b54 b55 hj53
          refine tt_k 4 (S' := (450, [some (.inr (.inl 30)), some (.inr (.inl 32)), some (.inl bits), some (.inl nr), some (.inl top), some (.inl x44), some (.inl j51)], [.inl top, .inl (s22 3017)], n, D, (us s22 3026 ((2 * (x44 + (max 8 x44))))), p, c)) rfl ?_
          refine tb_gt (x := (s22 3017)) (y := top) rfl rfl (by omega) (fun h56 => ?_) (fun h56 => ?_)
          · show tt Zi d 144 (510, [some (.inr (.inl 30)), some (.inr (.inl 32)), some (.inl bits), some (.inl nr), some (.inl top), some (.inl x44), some (.inl j51)], [], n, D, (us s22 3026 ((2 * (x44 + (max 8 x44))))), p, c) _
            refine tt_k 1 (S' := (511, [some (.inr (.inl 30)), some (.inr (.inl 32)), some (.inl bits), some (.inl nr), some (.inl top), some (.inl x44), some (.inl j51)], [.inl 0], n, D, (us s22 3026 ((2 * (x44 + (max 8 x44))))), p, c)) rfl ?_
            exact tt_rtb rfl rfl (by omega) ⟨(us s22 3026 ((2 * (x44 + (max 8 x44))))), 0, rfl, rfl, (bS_us hS22 (show 0 ≤ (2 * (x44 + (max 8 x44))) ∧ (2 * (x44 + (max 8 x44))) ≤ 96 by omega)), (fr_us (by decide) (fr_tr (fr_us (by decide) (fr_us (by decide) (fr_us (by decide) (fr_us (by decide) (fr_us (by decide) (fr_us (by decide) fr_rf)))))) f23 (by decide))), by omega, by show (0 = 1 ∧ VM (c 32 0) (c 32 1) (c 32 2) (c 32 3) (c 32 4) bits nr ∧ zq (ZM (c 32 0) (c 32 1) (c 32 2) (c 32 3) (c 32 4) bits nr) ((s22 3017)) ((s22 3018)) ((s22 3019)) ((s22 3020)) ((s22 3021)) ((s22 3022)) ((s22 3023)) ((s22 3024)) ((s22 3025)) (((2 * (x44 + (max 8 x44)))))) ∨ (0 = 0 ∧ ¬ VM (c 32 0) (c 32 1) (c 32 2) (c 32 3) (c 32 4) bits nr); exact Or.inr ⟨rfl, by unfold VM; omega⟩⟩
          · show tt Zi d 144 (453, [some (.inr (.inl 30)), some (.inr (.inl 32)), some (.inl bits), some (.inl nr), some (.inl top), some (.inl x44), some (.inl j51)], [], n, D, (us s22 3026 ((2 * (x44 + (max 8 x44))))), p, c) _
            refine tt_k 4 (S' := (461, [some (.inr (.inl 30)), some (.inr (.inl 32)), some (.inl bits), some (.inl nr), some (.inl top), some (.inl x44), some (.inl j51)], [.inl 255, .inl 0, .inl (s22 3018)], n, D, (us s22 3026 ((2 * (x44 + (max 8 x44))))), p, c)) rfl ?_
            refine tt_cl (by omega) rfl (k_isIn (Zi := Zi) (D := D) (s := (us s22 3026 ((2 * (x44 + (max 8 x44)))))) (p := p) (c := c) (by omega) (bS_us hS22 (show 0 ≤ (2 * (x44 + (max 8 x44))) ∧ (2 * (x44 + (max 8 x44))) ≤ 96 by omega)) hC (s22 3018) 0 255 (by omega) (by omega) (by omega)) ?_
            rintro _ _ ⟨r57, rfl, rfl, b58, k59⟩
            show tt Zi d 144 (464, [some (.inr (.inl 30)), some (.inr (.inl 32)), some (.inl bits), some (.inl nr), some (.inl top), some (.inl x44), some (.inl j51)], [.inl r57], n, D, (us s22 3026 ((2 * (x44 + (max 8 x44))))), p, c) _
            replace k59 : r57 = if 0 ≤ (s22 3018) ∧ (s22 3018) ≤ 255 then (1 : Int) else 0 := k59
            subst k59
            show tt Zi d 144 (464, [some (.inr (.inl 30)), some (.inr (.inl 32)), some (.inl bits), some (.inl nr), some (.inl top), some (.inl x44), some (.inl j51)], [.inl (if 0 ≤ (s22 3018) ∧ (s22 3018) ≤ 255 then (1 : Int) else 0)], n, D, (us s22 3026 ((2 * (x44 + (max 8 x44))))), p, c) _
            refine tz_eq (x := (if 0 ≤ (s22 3018) ∧ (s22 3018) ≤ 255 then (1 : Int) else 0)) rfl rfl (by omega) (fun h60 => ?_) (fun h60 => ?_)
            · show tt Zi d 144 (510, [some (.inr (.inl 30)), some (.inr (.inl 32)), some (.inl bits), some (.inl nr), some (.inl top), some (.inl x44), some (.inl j51)], [], n, D, (us s22 3026 ((2 * (x44 + (max 8 x44))))), p, c) _
              refine tt_k 1 (S' := (511, [some (.inr (.inl 30)), some (.inr (.inl 32)), some (.inl bits), some (.inl nr), some (.inl top), some (.inl x44), some (.inl j51)], [.inl 0], n, D, (us s22 3026 ((2 * (x44 + (max 8 x44))))), p, c)) rfl ?_
              exact tt_rtb rfl rfl (by omega) ⟨(us s22 3026 ((2 * (x44 + (max 8 x44))))), 0, rfl, rfl, (bS_us hS22 (show 0 ≤ (2 * (x44 + (max 8 x44))) ∧ (2 * (x44 + (max 8 x44))) ≤ 96 by omega)), (fr_us (by decide) (fr_tr (fr_us (by decide) (fr_us (by decide) (fr_us (by decide) (fr_us (by decide) (fr_us (by decide) (fr_us (by decide) fr_rf)))))) f23 (by decide))), by omega, by show (0 = 1 ∧ VM (c 32 0) (c 32 1) (c 32 2) (c 32 3) (c 32 4) bits nr ∧ zq (ZM (c 32 0) (c 32 1) (c 32 2) (c 32 3) (c 32 4) bits nr) ((s22 3017)) ((s22 3018)) ((s22 3019)) ((s22 3020)) ((s22 3021)) ((s22 3022)) ((s22 3023)) ((s22 3024)) ((s22 3025)) (((2 * (x44 + (max 8 x44)))))) ∨ (0 = 0 ∧ ¬ VM (c 32 0) (c 32 1) (c 32 2) (c 32 3) (c 32 4) bits nr); exact Or.inr ⟨rfl, by unfold VM; omega⟩⟩
            · show tt Zi d 144 (467, [some (.inr (.inl 30)), some (.inr (.inl 32)), some (.inl bits), some (.inl nr), some (.inl top), some (.inl x44), some (.inl j51)], [], n, D, (us s22 3026 ((2 * (x44 + (max 8 x44))))), p, c) _
              refine tt_k 5 (S' := (476, [some (.inr (.inl 30)), some (.inr (.inl 32)), some (.inl bits), some (.inl nr), some (.inl top), some (.inl x44), some (.inl j51)], [.inl 2, .inl (s22 3017), .inl (s22 3018)], n, D, (us s22 3026 ((2 * (x44 + (max 8 x44))))), p, c)) rfl ?_
              refine tt_dvp (x := (s22 3017)) (y := 2) rfl (by omega) ?_
              show tt Zi d 144 (477, [some (.inr (.inl 30)), some (.inr (.inl 32)), some (.inl bits), some (.inl nr), some (.inl top), some (.inl x44), some (.inl j51)], [.inl ((s22 3017) / 2), .inl (s22 3018)], n, D, (us s22 3026 ((2 * (x44 + (max 8 x44))))), p, c) _
              refine tb_gt (x := (s22 3018)) (y := ((s22 3017) / 2)) rfl rfl (by omega) (fun h61 => ?_) (fun h61 => ?_)
              · show tt Zi d 144 (510, [some (.inr (.inl 30)), some (.inr (.inl 32)), some (.inl bits), some (.inl nr), some (.inl top), some (.inl x44), some (.inl j51)], [], n, D, (us s22 3026 ((2 * (x44 + (max 8 x44))))), p, c) _
                refine tt_k 1 (S' := (511, [some (.inr (.inl 30)), some (.inr (.inl 32)), some (.inl bits), some (.inl nr), some (.inl top), some (.inl x44), some (.inl j51)], [.inl 0], n, D, (us s22 3026 ((2 * (x44 + (max 8 x44))))), p, c)) rfl ?_
                exact tt_rtb rfl rfl (by omega) ⟨(us s22 3026 ((2 * (x44 + (max 8 x44))))), 0, rfl, rfl, (bS_us hS22 (show 0 ≤ (2 * (x44 + (max 8 x44))) ∧ (2 * (x44 + (max 8 x44))) ≤ 96 by omega)), (fr_us (by decide) (fr_tr (fr_us (by decide) (fr_us (by decide) (fr_us (by decide) (fr_us (by decide) (fr_us (by decide) (fr_us (by decide) fr_rf)))))) f23 (by decide))), by omega, by show (0 = 1 ∧ VM (c 32 0) (c 32 1) (c 32 2) (c 32 3) (c 32 4) bits nr ∧ zq (ZM (c 32 0) (c 32 1) (c 32 2) (c 32 3) (c 32 4) bits nr) ((s22 3017)) ((s22 3018)) ((s22 3019)) ((s22 3020)) ((s22 3021)) ((s22 3022)) ((s22 3023)) ((s22 3024)) ((s22 3025)) (((2 * (x44 + (max 8 x44)))))) ∨ (0 = 0 ∧ ¬ VM (c 32 0) (c 32 1) (c 32 2) (c 32 3) (c 32 4) bits nr); exact Or.inr ⟨rfl, by unfold VM; omega⟩⟩
              · show tt Zi d 144 (480, [some (.inr (.inl 30)), some (.inr (.inl 32)), some (.inl bits), some (.inl nr), some (.inl top), some (.inl x44), some (.inl j51)], [], n, D, (us s22 3026 ((2 * (x44 + (max 8 x44))))), p, c) _
                refine tt_k 1 (S' := (482, [some (.inr (.inl 30)), some (.inr (.inl 32)), some (.inl bits), some (.inl nr), some (.inl top), some (.inl x44), some (.inl j51)], [.inl j51], n, D, (us s22 3026 ((2 * (x44 + (max 8 x44))))), p, c)) rfl ?_
                refine tz_eq (x := j51) rfl rfl (by omega) (fun h62 => ?_) (fun h62 => ?_)
                · show tt Zi d 144 (510, [some (.inr (.inl 30)), some (.inr (.inl 32)), some (.inl bits), some (.inl nr), some (.inl top), some (.inl x44), some (.inl j51)], [], n, D, (us s22 3026 ((2 * (x44 + (max 8 x44))))), p, c) _
                  refine tt_k 1 (S' := (511, [some (.inr (.inl 30)), some (.inr (.inl 32)), some (.inl bits), some (.inl nr), some (.inl top), some (.inl x44), some (.inl j51)], [.inl 0], n, D, (us s22 3026 ((2 * (x44 + (max 8 x44))))), p, c)) rfl ?_
                  exact tt_rtb rfl rfl (by omega) ⟨(us s22 3026 ((2 * (x44 + (max 8 x44))))), 0, rfl, rfl, (bS_us hS22 (show 0 ≤ (2 * (x44 + (max 8 x44))) ∧ (2 * (x44 + (max 8 x44))) ≤ 96 by omega)), (fr_us (by decide) (fr_tr (fr_us (by decide) (fr_us (by decide) (fr_us (by decide) (fr_us (by decide) (fr_us (by decide) (fr_us (by decide) fr_rf)))))) f23 (by decide))), by omega, by show (0 = 1 ∧ VM (c 32 0) (c 32 1) (c 32 2) (c 32 3) (c 32 4) bits nr ∧ zq (ZM (c 32 0) (c 32 1) (c 32 2) (c 32 3) (c 32 4) bits nr) ((s22 3017)) ((s22 3018)) ((s22 3019)) ((s22 3020)) ((s22 3021)) ((s22 3022)) ((s22 3023)) ((s22 3024)) ((s22 3025)) (((2 * (x44 + (max 8 x44)))))) ∨ (0 = 0 ∧ ¬ VM (c 32 0) (c 32 1) (c 32 2) (c 32 3) (c 32 4) bits nr); exact Or.inr ⟨rfl, by unfold VM; omega⟩⟩
                · show tt Zi d 144 (485, [some (.inr (.inl 30)), some (.inr (.inl 32)), some (.inl bits), some (.inl nr), some (.inl top), some (.inl x44), some (.inl j51)], [], n, D, (us s22 3026 ((2 * (x44 + (max 8 x44))))), p, c) _
                  refine tt_k 6 (S' := (497, [some (.inr (.inl 30)), some (.inr (.inl 32)), some (.inl bits), some (.inl nr), some (.inl top), some (.inl x44), some (.inl j51)], [.inl (s22 3017), .inl 255, .inl 3, .inl (s22 3022)], n, D, (us s22 3026 ((2 * (x44 + (max 8 x44))))), p, c)) rfl ?_
                  refine tt_cl (by omega) rfl (k_more (Zi := Zi) (D := D) (s := (us s22 3026 ((2 * (x44 + (max 8 x44)))))) (p := p) (c := c) (by omega) (bS_us hS22 (show 0 ≤ (2 * (x44 + (max 8 x44))) ∧ (2 * (x44 + (max 8 x44))) ≤ 96 by omega)) hC 255 (s22 3017) (by omega) (by omega)) ?_
                  rintro _ _ ⟨r63, rfl, rfl, b64, k65⟩
                  show tt Zi d 144 (500, [some (.inr (.inl 30)), some (.inr (.inl 32)), some (.inl bits), some (.inl nr), some (.inl top), some (.inl x44), some (.inl j51)], [.inl r63, .inl 3, .inl (s22 3022)], n, D, (us s22 3026 ((2 * (x44 + (max 8 x44))))), p, c) _
                  replace k65 : r63 = max 255 (s22 3017) := k65
                  subst k65
                  show tt Zi d 144 (500, [some (.inr (.inl 30)), some (.inr (.inl 32)), some (.inl bits), some (.inl nr), some (.inl top), some (.inl x44), some (.inl j51)], [.inl (max 255 (s22 3017)), .inl 3, .inl (s22 3022)], n, D, (us s22 3026 ((2 * (x44 + (max 8 x44))))), p, c) _
                  refine tt_cl (by omega) rfl (k_isIn (Zi := Zi) (D := D) (s := (us s22 3026 ((2 * (x44 + (max 8 x44)))))) (p := p) (c := c) (by omega) (bS_us hS22 (show 0 ≤ (2 * (x44 + (max 8 x44))) ∧ (2 * (x44 + (max 8 x44))) ≤ 96 by omega)) hC (s22 3022) 3 (max 255 (s22 3017)) (by omega) (by omega) (by omega)) ?_
                  rintro _ _ ⟨r66, rfl, rfl, b67, k68⟩
                  show tt Zi d 144 (503, [some (.inr (.inl 30)), some (.inr (.inl 32)), some (.inl bits), some (.inl nr), some (.inl top), some (.inl x44), some (.inl j51)], [.inl r66], n, D, (us s22 3026 ((2 * (x44 + (max 8 x44))))), p, c) _
                  replace k68 : r66 = if 3 ≤ (s22 3022) ∧ (s22 3022) ≤ (max 255 (s22 3017)) then (1 : Int) else 0 := k68
                  subst k68
                  show tt Zi d 144 (503, [some (.inr (.inl 30)), some (.inr (.inl 32)), some (.inl bits), some (.inl nr), some (.inl top), some (.inl x44), some (.inl j51)], [.inl ((if 3 ≤ (s22 3022) ∧ (s22 3022) ≤ (max 255 (s22 3017)) then (1 : Int) else 0))], n, D, (us s22 3026 ((2 * (x44 + (max 8 x44))))), p, c) _
                  refine tz_eq (x := (if 3 ≤ (s22 3022) ∧ (s22 3022) ≤ (max 255 (s22 3017)) then (1 : Int) else 0)) rfl rfl (by omega) (fun h69 => ?_) (fun h69 => ?_)
                  · show tt Zi d 144 (510, [some (.inr (.inl 30)), some (.inr (.inl 32)), some (.inl bits), some (.inl nr), some (.inl top), some (.inl x44), some (.inl j51)], [], n, D, (us s22 3026 ((2 * (x44 + (max 8 x44))))), p, c) _
                    refine tt_k 1 (S' := (511, [some (.inr (.inl 30)), some (.inr (.inl 32)), some (.inl bits), some (.inl nr), some (.inl top), some (.inl x44), some (.inl j51)], [.inl 0], n, D, (us s22 3026 ((2 * (x44 + (max 8 x44))))), p, c)) rfl ?_
                    exact tt_rtb rfl rfl (by omega) ⟨(us s22 3026 ((2 * (x44 + (max 8 x44))))), 0, rfl, rfl, (bS_us hS22 (show 0 ≤ (2 * (x44 + (max 8 x44))) ∧ (2 * (x44 + (max 8 x44))) ≤ 96 by omega)), (fr_us (by decide) (fr_tr (fr_us (by decide) (fr_us (by decide) (fr_us (by decide) (fr_us (by decide) (fr_us (by decide) (fr_us (by decide) fr_rf)))))) f23 (by decide))), by omega, by show (0 = 1 ∧ VM (c 32 0) (c 32 1) (c 32 2) (c 32 3) (c 32 4) bits nr ∧ zq (ZM (c 32 0) (c 32 1) (c 32 2) (c 32 3) (c 32 4) bits nr) ((s22 3017)) ((s22 3018)) ((s22 3019)) ((s22 3020)) ((s22 3021)) ((s22 3022)) ((s22 3023)) ((s22 3024)) ((s22 3025)) (((2 * (x44 + (max 8 x44)))))) ∨ (0 = 0 ∧ ¬ VM (c 32 0) (c 32 1) (c 32 2) (c 32 3) (c 32 4) bits nr); exact Or.inr ⟨rfl, by unfold VM; omega⟩⟩
                  · show tt Zi d 144 (506, [some (.inr (.inl 30)), some (.inr (.inl 32)), some (.inl bits), some (.inl nr), some (.inl top), some (.inl x44), some (.inl j51)], [], n, D, (us s22 3026 ((2 * (x44 + (max 8 x44))))), p, c) _
                    refine tt_k 2 (S' := (511, [some (.inr (.inl 30)), some (.inr (.inl 32)), some (.inl bits), some (.inl nr), some (.inl top), some (.inl x44), some (.inl j51)], [.inl 1], n, D, (us s22 3026 ((2 * (x44 + (max 8 x44))))), p, c)) rfl ?_
                    exact tt_rtb rfl rfl (by omega) ⟨(us s22 3026 ((2 * (x44 + (max 8 x44))))), 1, rfl, rfl, (bS_us hS22 (show 0 ≤ (2 * (x44 + (max 8 x44))) ∧ (2 * (x44 + (max 8 x44))) ≤ 96 by omega)), (fr_us (by decide) (fr_tr (fr_us (by decide) (fr_us (by decide) (fr_us (by decide) (fr_us (by decide) (fr_us (by decide) (fr_us (by decide) fr_rf)))))) f23 (by decide))), by omega, by show (1 = 1 ∧ VM (c 32 0) (c 32 1) (c 32 2) (c 32 3) (c 32 4) bits nr ∧ zq (ZM (c 32 0) (c 32 1) (c 32 2) (c 32 3) (c 32 4) bits nr) ((s22 3017)) ((s22 3018)) ((s22 3019)) ((s22 3020)) ((s22 3021)) ((s22 3022)) ((s22 3023)) ((s22 3024)) ((s22 3025)) (((2 * (x44 + (max 8 x44)))))) ∨ (1 = 0 ∧ ¬ VM (c 32 0) (c 32 1) (c 32 2) (c 32 3) (c 32 4) bits nr); exact Or.inl ⟨rfl, by unfold VM; omega, by show _ = (zMo (c 32 0) bits); omega, by show _ = nr; omega, by show _ = (zT1 (c 32 1) (zMo (c 32 0) bits) nr); omega, by show _ = (zT2 (c 32 2) (zT1 (c 32 1) (zMo (c 32 0) bits) nr) (zMo (c 32 0) bits) nr); omega, by show _ = (zT3 (c 32 3) (zT2 (c 32 2) (zT1 (c 32 1) (zMo (c 32 0) bits) nr) (zMo (c 32 0) bits) nr) (zMo (c 32 0) bits) nr); omega, by show _ = zHa (c 32 4); omega, by show _ = 2 * nr + 1; omega, by show _ = zRg (zMo (c 32 0) bits) nr; rw [← hp1, ← hp0]; unfold zRg; omega, by show _ = ke (zRg (zMo (c 32 0) bits) nr) 1; rw [← hp1, ← hp0]; unfold zRg; exact hke, by show _ = zLo (zMo (c 32 0) bits); rw [← hp1]; unfold zLo; rw [← hbo]⟩⟩
        refine tb_gt (x := ((s22 3018) + 1)) (y := (s22 3019)) rfl rfl (by omega) (fun h70 => ?_) (fun h70 => ?_)
        · show tt Zi d 144 (441, [some (.inr (.inl 30)), some (.inr (.inl 32)), some (.inl bits), some (.inl nr), some (.inl top), some (.inl x44), none], [], n, D, (us s22 3026 ((2 * (x44 + (max 8 x44))))), p, c) _
          refine tt_k 1 (S' := (442, [some (.inr (.inl 30)), some (.inr (.inl 32)), some (.inl bits), some (.inl nr), some (.inl top), some (.inl x44), none], [.inl 0], n, D, (us s22 3026 ((2 * (x44 + (max 8 x44))))), p, c)) rfl ?_
          exact K52 0  (by omega) (by omega) (trivial)
        · show tt Zi d 144 (404, [some (.inr (.inl 30)), some (.inr (.inl 32)), some (.inl bits), some (.inl nr), some (.inl top), some (.inl x44), none], [], n, D, (us s22 3026 ((2 * (x44 + (max 8 x44))))), p, c) _
          refine tt_k 4 (S' := (412, [some (.inr (.inl 30)), some (.inr (.inl 32)), some (.inl bits), some (.inl nr), some (.inl top), some (.inl x44), none], [.inl (s22 3020), .inl (s22 3019)], n, D, (us s22 3026 ((2 * (x44 + (max 8 x44))))), p, c)) rfl ?_
          refine tb_gt (x := (s22 3019)) (y := (s22 3020)) rfl rfl (by omega) (fun h71 => ?_) (fun h71 => ?_)
          · show tt Zi d 144 (441, [some (.inr (.inl 30)), some (.inr (.inl 32)), some (.inl bits), some (.inl nr), some (.inl top), some (.inl x44), none], [], n, D, (us s22 3026 ((2 * (x44 + (max 8 x44))))), p, c) _
            refine tt_k 1 (S' := (442, [some (.inr (.inl 30)), some (.inr (.inl 32)), some (.inl bits), some (.inl nr), some (.inl top), some (.inl x44), none], [.inl 0], n, D, (us s22 3026 ((2 * (x44 + (max 8 x44))))), p, c)) rfl ?_
            exact K52 0  (by omega) (by omega) (trivial)
          · show tt Zi d 144 (415, [some (.inr (.inl 30)), some (.inr (.inl 32)), some (.inl bits), some (.inl nr), some (.inl top), some (.inl x44), none], [], n, D, (us s22 3026 ((2 * (x44 + (max 8 x44))))), p, c) _
            refine tt_k 4 (S' := (423, [some (.inr (.inl 30)), some (.inr (.inl 32)), some (.inl bits), some (.inl nr), some (.inl top), some (.inl x44), none], [.inl (s22 3021), .inl (s22 3020)], n, D, (us s22 3026 ((2 * (x44 + (max 8 x44))))), p, c)) rfl ?_
            refine tb_gt (x := (s22 3020)) (y := (s22 3021)) rfl rfl (by omega) (fun h72 => ?_) (fun h72 => ?_)
            · show tt Zi d 144 (441, [some (.inr (.inl 30)), some (.inr (.inl 32)), some (.inl bits), some (.inl nr), some (.inl top), some (.inl x44), none], [], n, D, (us s22 3026 ((2 * (x44 + (max 8 x44))))), p, c) _
              refine tt_k 1 (S' := (442, [some (.inr (.inl 30)), some (.inr (.inl 32)), some (.inl bits), some (.inl nr), some (.inl top), some (.inl x44), none], [.inl 0], n, D, (us s22 3026 ((2 * (x44 + (max 8 x44))))), p, c)) rfl ?_
              exact K52 0  (by omega) (by omega) (trivial)
            · show tt Zi d 144 (426, [some (.inr (.inl 30)), some (.inr (.inl 32)), some (.inl bits), some (.inl nr), some (.inl top), some (.inl x44), none], [], n, D, (us s22 3026 ((2 * (x44 + (max 8 x44))))), p, c) _
              refine tt_k 4 (S' := (434, [some (.inr (.inl 30)), some (.inr (.inl 32)), some (.inl bits), some (.inl nr), some (.inl top), some (.inl x44), none], [.inl (s22 3017), .inl (s22 3021)], n, D, (us s22 3026 ((2 * (x44 + (max 8 x44))))), p, c)) rfl ?_
              refine tb_gt (x := (s22 3021)) (y := (s22 3017)) rfl rfl (by omega) (fun h73 => ?_) (fun h73 => ?_)
              · show tt Zi d 144 (441, [some (.inr (.inl 30)), some (.inr (.inl 32)), some (.inl bits), some (.inl nr), some (.inl top), some (.inl x44), none], [], n, D, (us s22 3026 ((2 * (x44 + (max 8 x44))))), p, c) _
                refine tt_k 1 (S' := (442, [some (.inr (.inl 30)), some (.inr (.inl 32)), some (.inl bits), some (.inl nr), some (.inl top), some (.inl x44), none], [.inl 0], n, D, (us s22 3026 ((2 * (x44 + (max 8 x44))))), p, c)) rfl ?_
                exact K52 0  (by omega) (by omega) (trivial)
              · show tt Zi d 144 (437, [some (.inr (.inl 30)), some (.inr (.inl 32)), some (.inl bits), some (.inl nr), some (.inl top), some (.inl x44), none], [], n, D, (us s22 3026 ((2 * (x44 + (max 8 x44))))), p, c) _
                refine tt_k 2 (S' := (442, [some (.inr (.inl 30)), some (.inr (.inl 32)), some (.inl bits), some (.inl nr), some (.inl top), some (.inl x44), none], [.inl 1], n, D, (us s22 3026 ((2 * (x44 + (max 8 x44))))), p, c)) rfl ?_
                exact K52 1  (by omega) (by omega) (trivial)
      refine tz_ne (x := (c 32 (3 : Int).toNat)) rfl rfl (by omega) (fun h74 => ?_) (fun h74 => ?_)
      · show tt Zi d 144 (284, [some (.inr (.inl 30)), some (.inr (.inl 32)), some (.inl bits), some (.inl nr), some (.inl top), some (.inl f_), none], [.inr (.inl 30)], n, D, (us (us s 3019 j2) 3020 j8), p, c) _
        refine tt_k 2 (S' := (286, [some (.inr (.inl 30)), some (.inr (.inl 32)), some (.inl bits), some (.inl nr), some (.inl top), some (.inl f_), none], [.inl 3, .inr (.inl 32), .inr (.inl 30)], n, D, (us (us s 3019 j2) 3020 j8), p, c)) rfl ?_
        refine tt_ildv (i := 3) (v := (c 32 (3 : Int).toNat)) rfl rfl (by omega) rfl ?_
        show tt Zi d 144 (287, [some (.inr (.inl 30)), some (.inr (.inl 32)), some (.inl bits), some (.inl nr), some (.inl top), some (.inl f_), none], [.inl (c 32 (3 : Int).toNat), .inr (.inl 30)], n, D, (us (us s 3019 j2) 3020 j8), p, c) _
        exact K15 (c 32 (3 : Int).toNat)  (by omega) (by unfold zT3; first | (rw [if_neg (by omega)]; omega) | (rw [if_pos (by omega), ← b12, ← hp4, ← hp1]; first | exact kpl | (rw [hp0] at kpl; exact kpl))) (trivial)
      · show tt Zi d 144 (269, [some (.inr (.inl 30)), some (.inr (.inl 32)), some (.inl bits), some (.inl nr), some (.inl top), some (.inl f_), none], [.inr (.inl 30)], n, D, (us (us s 3019 j2) 3020 j8), p, c) _
        refine tt_k 5 (S' := (278, [some (.inr (.inl 30)), some (.inr (.inl 32)), some (.inl bits), some (.inl nr), some (.inl top), some (.inl f_), none], [.inl j8, .inl (s 3021), .inr (.inl 30), .inr (.inl 30)], n, D, (us (us s 3019 j2) 3020 j8), p, c)) rfl ?_
        have b75 : -2147483648 ≤ (s 3021) ∧ (s 3021) ≤ 2147483647 := hS 3021
        refine tt_cl (by omega) rfl (k_plain2 (Zi := Zi) (D := D) (s := (us (us s 3019 j2) 3020 j8)) (p := p) (c := c) (by omega) (bS_us (bS_us hS (show -2147483648 ≤ j2 ∧ j2 ≤ 2147483647 by omega)) (show -2147483648 ≤ j8 ∧ j8 ≤ 2147483647 by omega)) hC (s 3021) j8 (by omega) (by omega)) ?_
        rintro _ _ ⟨r76, rfl, rfl, b77, k78⟩
        show tt Zi d 144 (281, [some (.inr (.inl 30)), some (.inr (.inl 32)), some (.inl bits), some (.inl nr), some (.inl top), some (.inl f_), none], [.inl r76, .inr (.inl 30)], n, D, (us (us s 3019 j2) 3020 j8), p, c) _
        replace k78 : r76 = zPl (s 3021) j8 ((s 3017)) := k78
        have b79 : 0 ≤ (s 3017) ∧ (s 3017) ≤ 65535 := hS 3017
        have kpl := k78
        refine tt_k 1 (S' := (287, [some (.inr (.inl 30)), some (.inr (.inl 32)), some (.inl bits), some (.inl nr), some (.inl top), some (.inl f_), none], [.inl r76, .inr (.inl 30)], n, D, (us (us s 3019 j2) 3020 j8), p, c)) rfl ?_
        exact K15 r76  (by omega) (by unfold zT3; first | (rw [if_neg (by omega)]; omega) | (rw [if_pos (by omega), ← b12, ← hp4, ← hp1]; first | exact kpl | (rw [hp0] at kpl; exact kpl))) (trivial)
    refine tz_ne (x := (c 32 (2 : Int).toNat)) rfl rfl (by omega) (fun h80 => ?_) (fun h80 => ?_)
    · show tt Zi d 144 (256, [some (.inr (.inl 30)), some (.inr (.inl 32)), some (.inl bits), some (.inl nr), some (.inl top), some (.inl f_), none], [.inr (.inl 30)], n, D, (us s 3019 j2), p, c) _
      refine tt_k 2 (S' := (258, [some (.inr (.inl 30)), some (.inr (.inl 32)), some (.inl bits), some (.inl nr), some (.inl top), some (.inl f_), none], [.inl 2, .inr (.inl 32), .inr (.inl 30)], n, D, (us s 3019 j2), p, c)) rfl ?_
      refine tt_ildv (i := 2) (v := (c 32 (2 : Int).toNat)) rfl rfl (by omega) rfl ?_
      show tt Zi d 144 (259, [some (.inr (.inl 30)), some (.inr (.inl 32)), some (.inl bits), some (.inl nr), some (.inl top), some (.inl f_), none], [.inl (c 32 (2 : Int).toNat), .inr (.inl 30)], n, D, (us s 3019 j2), p, c) _
      exact K9 (c 32 (2 : Int).toNat)  (by omega) (by unfold zT2; first | (rw [if_neg (by omega)]; omega) | (rw [if_pos (by omega), ← b6, ← hp3, ← hp1]; first | exact kpl | (rw [hp0] at kpl; exact kpl))) (trivial)
    · show tt Zi d 144 (241, [some (.inr (.inl 30)), some (.inr (.inl 32)), some (.inl bits), some (.inl nr), some (.inl top), some (.inl f_), none], [.inr (.inl 30)], n, D, (us s 3019 j2), p, c) _
      refine tt_k 5 (S' := (250, [some (.inr (.inl 30)), some (.inr (.inl 32)), some (.inl bits), some (.inl nr), some (.inl top), some (.inl f_), none], [.inl j2, .inl (s 3020), .inr (.inl 30), .inr (.inl 30)], n, D, (us s 3019 j2), p, c)) rfl ?_
      have b81 : -2147483648 ≤ (s 3020) ∧ (s 3020) ≤ 2147483647 := hS 3020
      refine tt_cl (by omega) rfl (k_plain2 (Zi := Zi) (D := D) (s := (us s 3019 j2)) (p := p) (c := c) (by omega) (bS_us hS (show -2147483648 ≤ j2 ∧ j2 ≤ 2147483647 by omega)) hC (s 3020) j2 (by omega) (by omega)) ?_
      rintro _ _ ⟨r82, rfl, rfl, b83, k84⟩
      show tt Zi d 144 (253, [some (.inr (.inl 30)), some (.inr (.inl 32)), some (.inl bits), some (.inl nr), some (.inl top), some (.inl f_), none], [.inl r82, .inr (.inl 30)], n, D, (us s 3019 j2), p, c) _
      replace k84 : r82 = zPl (s 3020) j2 ((s 3017)) := k84
      have b85 : 0 ≤ (s 3017) ∧ (s 3017) ≤ 65535 := hS 3017
      have kpl := k84
      refine tt_k 1 (S' := (259, [some (.inr (.inl 30)), some (.inr (.inl 32)), some (.inl bits), some (.inl nr), some (.inl top), some (.inl f_), none], [.inl r82, .inr (.inl 30)], n, D, (us s 3019 j2), p, c)) rfl ?_
      exact K9 r82  (by omega) (by unfold zT2; first | (rw [if_neg (by omega)]; omega) | (rw [if_pos (by omega), ← b6, ← hp3, ← hp1]; first | exact kpl | (rw [hp0] at kpl; exact kpl))) (trivial)
  refine tz_ne (x := (c 32 (1 : Int).toNat)) rfl rfl (by omega) (fun h86 => ?_) (fun h86 => ?_)
  · show tt Zi d 144 (228, [some (.inr (.inl 30)), some (.inr (.inl 32)), some (.inl bits), some (.inl nr), some (.inl top), some (.inl f_), none], [.inr (.inl 30)], n, D, s, p, c) _
    refine tt_k 2 (S' := (230, [some (.inr (.inl 30)), some (.inr (.inl 32)), some (.inl bits), some (.inl nr), some (.inl top), some (.inl f_), none], [.inl 1, .inr (.inl 32), .inr (.inl 30)], n, D, s, p, c)) rfl ?_
    refine tt_ildv (i := 1) (v := (c 32 (1 : Int).toNat)) rfl rfl (by omega) rfl ?_
    show tt Zi d 144 (231, [some (.inr (.inl 30)), some (.inr (.inl 32)), some (.inl bits), some (.inl nr), some (.inl top), some (.inl f_), none], [.inl (c 32 (1 : Int).toNat), .inr (.inl 30)], n, D, s, p, c) _
    exact K3 (c 32 (1 : Int).toNat)  (by omega) (by unfold zT1; first | (rw [if_neg (by omega)]; omega) | (rw [if_pos (by omega), ← hp2, ← hp1]; first | exact kpl | (rw [hp0] at kpl; exact kpl))) (trivial)
  · show tt Zi d 144 (211, [some (.inr (.inl 30)), some (.inr (.inl 32)), some (.inl bits), some (.inl nr), some (.inl top), some (.inl f_), none], [.inr (.inl 30)], n, D, s, p, c) _
    refine tt_k 7 (S' := (222, [some (.inr (.inl 30)), some (.inr (.inl 32)), some (.inl bits), some (.inl nr), some (.inl top), some (.inl f_), none], [.inl ((s 3018) + 1), .inl (s 3019), .inr (.inl 30), .inr (.inl 30)], n, D, s, p, c)) rfl ?_
    have b87 : -2147483648 ≤ (s 3019) ∧ (s 3019) ≤ 2147483647 := hS 3019
    have b88 : -2147483648 ≤ (s 3018) ∧ (s 3018) ≤ 2147483647 := hS 3018
    refine tt_cl (by omega) rfl (k_plain2 (Zi := Zi) (D := D) (s := s) (p := p) (c := c) (by omega) hS hC (s 3019) ((s 3018) + 1) (by omega) (by omega)) ?_
    rintro _ _ ⟨r89, rfl, rfl, b90, k91⟩
    show tt Zi d 144 (225, [some (.inr (.inl 30)), some (.inr (.inl 32)), some (.inl bits), some (.inl nr), some (.inl top), some (.inl f_), none], [.inl r89, .inr (.inl 30)], n, D, s, p, c) _
    replace k91 : r89 = zPl (s 3019) ((s 3018) + 1) ((s 3017)) := k91
    have b92 : 0 ≤ (s 3017) ∧ (s 3017) ≤ 65535 := hS 3017
    have kpl := k91
    refine tt_k 1 (S' := (231, [some (.inr (.inl 30)), some (.inr (.inl 32)), some (.inl bits), some (.inl nr), some (.inl top), some (.inl f_), none], [.inl r89, .inr (.inl 30)], n, D, s, p, c)) rfl ?_
    exact K3 r89  (by omega) (by unfold zT1; first | (rw [if_neg (by omega)]; omega) | (rw [if_pos (by omega), ← hp2, ← hp1]; first | exact kpl | (rw [hp0] at kpl; exact kpl))) (trivial)
set_option maxRecDepth 100000 in
set_option maxHeartbeats 4000000 in
theorem x_measAP {Zi : Nat → Option (Nat × (Nat → Int))} {d n : Nat} {D : Nat → Nat × Nat} {s : Nat → Int} {p : Nat → Nat} {c : Nat → Nat → Int} (hd : 2 ≤ d) (hS : bS s) (hC : bC D c) (bits : Int) (nr : Int) (b_bits : 2 ≤ bits ∧ bits ≤ 16) (b_nr : 0 ≤ nr ∧ nr ≤ 255) : tt Zi d 144 (0, [some (.inr (.inl 30)), some (.inr (.inl 32)), some (.inl bits), some (.inl nr), none, none, none], [], n, D, s, p, c) (fun R H => ∃ (s' : Nat → Int) (r : Int), R = .inl (some (.inl r)) ∧ H = (n, D, s', p, c) ∧ bS s' ∧ fr s s' [3017, 3018, 3019, 3020, 3021, 3022, 3023, 3024, 3025, 3026] ∧ (0 ≤ r ∧ r ≤ 1) ∧ ((r = 1 ∧ VM (c 32 0) (c 32 1) (c 32 2) (c 32 3) (c 32 4) bits nr ∧ zq (ZM (c 32 0) (c 32 1) (c 32 2) (c 32 3) (c 32 4) bits nr) (s' 3017) (s' 3018) (s' 3019) (s' 3020) (s' 3021) (s' 3022) (s' 3023) (s' 3024) (s' 3025) (s' 3026)) ∨ (r = 0 ∧ ¬ VM (c 32 0) (c 32 1) (c 32 2) (c 32 3) (c 32 4) bits nr))) := by
  have e1 : 4 ≤ (mi_shl 1 bits) ∧ (mi_shl 1 bits) ≤ 65536 := mi_shl1b 2 16 (by omega) (by omega) (by decide)
  have r0_ : c 32 (0 : Int).toNat = c 32 0 := rfl
  have r1_ : c 32 (1 : Int).toNat = c 32 1 := rfl
  have r2_ : c 32 (2 : Int).toNat = c 32 2 := rfl
  have r3_ : c 32 (3 : Int).toNat = c 32 3 := rfl
  have r4_ : c 32 (4 : Int).toNat = c 32 4 := rfl
  have hsh := mi_shl1i (k := bits) (by omega) (by omega)
  have hpb := pw_bits (b := bits) (by omega)
  refine tt_k 9 (S' := (10, [some (.inr (.inl 30)), some (.inr (.inl 32)), some (.inl bits), some (.inl nr), some (.inl ((mi_shl 1 bits) - 1)), none, none], [.inl 0, .inr (.inl 32), .inr (.inl 30)], n, D, s, p, c)) rfl ?_
  refine tt_ildv (i := 0) (v := (c 32 (0 : Int).toNat)) rfl rfl (by omega) rfl ?_
  show tt Zi d 144 (11, [some (.inr (.inl 30)), some (.inr (.inl 32)), some (.inl bits), some (.inl nr), some (.inl ((mi_shl 1 bits) - 1)), none, none], [.inl (c 32 (0 : Int).toNat), .inr (.inl 30)], n, D, s, p, c) _
  have b2 : 0 ≤ (c 32 (0 : Int).toNat) ∧ (c 32 (0 : Int).toNat) ≤ 65535 := hC 32 _
  have K4 : ∀ (j3 : Int) , (1 ≤ j3 ∧ j3 ≤ 65535) → (j3 = (zMo (c 32 0) bits)) → (1 ≤ j3) → (True) → tt Zi d 144 (22, [some (.inr (.inl 30)), some (.inr (.inl 32)), some (.inl bits), some (.inl nr), some (.inl ((mi_shl 1 bits) - 1)), none, none], [.inl j3, .inr (.inl 30)], n, D, s, p, c) (fun R H => ∃ (s' : Nat → Int) (r : Int), R = .inl (some (.inl r)) ∧ H = (n, D, s', p, c) ∧ bS s' ∧ fr s s' [3017, 3018, 3019, 3020, 3021, 3022, 3023, 3024, 3025, 3026] ∧ (0 ≤ r ∧ r ≤ 1) ∧ ((r = 1 ∧ VM (c 32 0) (c 32 1) (c 32 2) (c 32 3) (c 32 4) bits nr ∧ zq (ZM (c 32 0) (c 32 1) (c 32 2) (c 32 3) (c 32 4) bits nr) (s' 3017) (s' 3018) (s' 3019) (s' 3020) (s' 3021) (s' 3022) (s' 3023) (s' 3024) (s' 3025) (s' 3026)) ∨ (r = 0 ∧ ¬ VM (c 32 0) (c 32 1) (c 32 2) (c 32 3) (c 32 4) bits nr))) := by
    intro j3 b6 b7 b8 hj5
    refine tt_k 7 (S' := (33, [some (.inr (.inl 30)), some (.inr (.inl 32)), some (.inl bits), some (.inl nr), some (.inl ((mi_shl 1 bits) - 1)), none, none], [.inl 4, .inr (.inl 32), .inr (.inl 30)], n, D, (us (us s 3017 j3) 3018 nr), p, c)) rfl ?_
    refine tt_ildv (i := 4) (v := (c 32 (4 : Int).toNat)) rfl rfl (by omega) rfl ?_
    show tt Zi d 144 (34, [some (.inr (.inl 30)), some (.inr (.inl 32)), some (.inl bits), some (.inl nr), some (.inl ((mi_shl 1 bits) - 1)), none, none], [.inl (c 32 (4 : Int).toNat), .inr (.inl 30)], n, D, (us (us s 3017 j3) 3018 nr), p, c) _
    have b9 : 0 ≤ (c 32 (4 : Int).toNat) ∧ (c 32 (4 : Int).toNat) ≤ 65535 := hC 32 _
    have K11 : ∀ (j10 : Int) , (1 ≤ j10 ∧ j10 ≤ 65535) → (j10 = zHa (c 32 4)) → (True) → tt Zi d 144 (45, [some (.inr (.inl 30)), some (.inr (.inl 32)), some (.inl bits), some (.inl nr), some (.inl ((mi_shl 1 bits) - 1)), none, none], [.inl j10, .inr (.inl 30)], n, D, (us (us s 3017 j3) 3018 nr), p, c) (fun R H => ∃ (s' : Nat → Int) (r : Int), R = .inl (some (.inl r)) ∧ H = (n, D, s', p, c) ∧ bS s' ∧ fr s s' [3017, 3018, 3019, 3020, 3021, 3022, 3023, 3024, 3025, 3026] ∧ (0 ≤ r ∧ r ≤ 1) ∧ ((r = 1 ∧ VM (c 32 0) (c 32 1) (c 32 2) (c 32 3) (c 32 4) bits nr ∧ zq (ZM (c 32 0) (c 32 1) (c 32 2) (c 32 3) (c 32 4) bits nr) (s' 3017) (s' 3018) (s' 3019) (s' 3020) (s' 3021) (s' 3022) (s' 3023) (s' 3024) (s' 3025) (s' 3026)) ∨ (r = 0 ∧ ¬ VM (c 32 0) (c 32 1) (c 32 2) (c 32 3) (c 32 4) bits nr))) := by
      intro j10 b13 b14 hj12
      refine tt_k 4 (S' := (55, [some (.inr (.inl 30)), some (.inr (.inl 32)), some (.inl bits), some (.inl nr), some (.inl ((mi_shl 1 bits) - 1)), none, none], [.inl 128, .inl j3], n, D, (us (us (us s 3017 j3) 3018 nr) 3022 j10), p, c)) rfl ?_
      refine tb_ge (x := j3) (y := 128) rfl rfl (by omega) (fun h15 => ?_) (fun h15 => ?_)
      · show tt Zi d 144 (133, [some (.inr (.inl 30)), some (.inr (.inl 32)), some (.inl bits), some (.inl nr), some (.inl ((mi_shl 1 bits) - 1)), none, none], [], n, D, (us (us (us s 3017 j3) 3018 nr) 3022 j10), p, c) _
        refine tt_k 3 (S' := (140, [some (.inr (.inl 30)), some (.inr (.inl 32)), some (.inl bits), some (.inl nr), some (.inl ((mi_shl 1 bits) - 1)), none, none], [.inl 4095, .inl j3], n, D, (us (us (us s 3017 j3) 3018 nr) 3022 j10), p, c)) rfl ?_
        refine tt_cl (by omega) rfl (k_less (Zi := Zi) (D := D) (s := (us (us (us s 3017 j3) 3018 nr) 3022 j10)) (p := p) (c := c) (by omega) (bS_us (bS_us (bS_us hS (show 0 ≤ j3 ∧ j3 ≤ 65535 by omega)) (show -2147483648 ≤ nr ∧ nr ≤ 2147483647 by omega)) (show 0 ≤ j10 ∧ j10 ≤ 65535 by omega)) hC j3 4095 (by omega) (by omega)) ?_
        rintro _ _ ⟨r16, rfl, rfl, b17, k18⟩
        show tt Zi d 144 (143, [some (.inr (.inl 30)), some (.inr (.inl 32)), some (.inl bits), some (.inl nr), some (.inl ((mi_shl 1 bits) - 1)), none, none], [.inl r16], n, D, (us (us (us s 3017 j3) 3018 nr) 3022 j10), p, c) _
        replace k18 : r16 = min j3 4095 := k18
        subst k18
        show tt Zi d 144 (143, [some (.inr (.inl 30)), some (.inr (.inl 32)), some (.inl bits), some (.inl nr), some (.inl ((mi_shl 1 bits) - 1)), none, none], [.inl (min j3 4095)], n, D, (us (us (us s 3017 j3) 3018 nr) 3022 j10), p, c) _
        refine tt_k 3 (S' := (150, [some (.inr (.inl 30)), some (.inr (.inl 32)), some (.inl bits), some (.inl nr), some (.inl ((mi_shl 1 bits) - 1)), none, none], [.inl 256, .inl ((min j3 4095) + 128)], n, D, (us (us (us s 3017 j3) 3018 nr) 3022 j10), p, c)) rfl ?_
        refine tt_dvp (x := ((min j3 4095) + 128)) (y := 256) rfl (by omega) ?_
        show tt Zi d 144 (151, [some (.inr (.inl 30)), some (.inr (.inl 32)), some (.inl bits), some (.inl nr), some (.inl ((mi_shl 1 bits) - 1)), none, none], [.inl ((((min j3 4095) + 128) / 256))], n, D, (us (us (us s 3017 j3) 3018 nr) 3022 j10), p, c) _
        refine tt_k 14 (S' := (172, [some (.inr (.inl 30)), some (.inr (.inl 32)), some (.inl bits), some (.inl nr), some (.inl ((mi_shl 1 bits) - 1)), some (.inl ((((min j3 4095) + 128) / 256))), none], [.inl ((((min j3 4095) + 128) / 256)), .inl 4, .inr (.inl 30)], n, D, (us (us (us (us s 3017 j3) 3018 nr) 3022 j10) 3019 ((((((min j3 4095) + 128) / 256) + 2) + (3 * nr)))), p, c)) rfl ?_
        refine tt_k 14 (S' := (192, [some (.inr (.inl 30)), some (.inr (.inl 32)), some (.inl bits), some (.inl nr), some (.inl ((mi_shl 1 bits) - 1)), some (.inl ((((min j3 4095) + 128) / 256))), none], [.inl 4, .inl ((17 * (((min j3 4095) + 128) / 256))), .inr (.inl 30)], n, D, (us (us (us (us (us s 3017 j3) 3018 nr) 3022 j10) 3019 ((((((min j3 4095) + 128) / 256) + 2) + (3 * nr)))) 3020 ((((4 * (((min j3 4095) + 128) / 256)) + 3) + (5 * nr)))), p, c)) rfl ?_
        refine tt_k 7 (S' := (204, [some (.inr (.inl 30)), some (.inr (.inl 32)), some (.inl bits), some (.inl nr), some (.inl ((mi_shl 1 bits) - 1)), some (.inl ((((min j3 4095) + 128) / 256))), none], [], n, D, (us (us (us (us (us (us s 3017 j3) 3018 nr) 3022 j10) 3019 ((((((min j3 4095) + 128) / 256) + 2) + (3 * nr)))) 3020 ((((4 * (((min j3 4095) + 128) / 256)) + 3) + (5 * nr)))) 3021 ((((17 * (((min j3 4095) + 128) / 256)) + 4) + (7 * nr)))), p, c)) rfl ?_
        refine tt_mono (x_measCP (Zi := Zi) (D := D) (s := (us (us (us (us (us (us s 3017 j3) 3018 nr) 3022 j10) 3019 ((((((min j3 4095) + 128) / 256) + 2) + (3 * nr)))) 3020 ((((4 * (((min j3 4095) + 128) / 256)) + 3) + (5 * nr)))) 3021 ((((17 * (((min j3 4095) + 128) / 256)) + 4) + (7 * nr))))) (p := p) (c := c) (by omega) (bS_us (bS_us (bS_us (bS_us (bS_us (bS_us hS (show 0 ≤ j3 ∧ j3 ≤ 65535 by omega)) (show -2147483648 ≤ nr ∧ nr ≤ 2147483647 by omega)) (show 0 ≤ j10 ∧ j10 ≤ 65535 by omega)) (show -2147483648 ≤ (((((min j3 4095) + 128) / 256) + 2) + (3 * nr)) ∧ (((((min j3 4095) + 128) / 256) + 2) + (3 * nr)) ≤ 2147483647 by omega)) (show -2147483648 ≤ (((4 * (((min j3 4095) + 128) / 256)) + 3) + (5 * nr)) ∧ (((4 * (((min j3 4095) + 128) / 256)) + 3) + (5 * nr)) ≤ 2147483647 by omega)) (show -2147483648 ≤ (((17 * (((min j3 4095) + 128) / 256)) + 4) + (7 * nr)) ∧ (((17 * (((min j3 4095) + 128) / 256)) + 4) + (7 * nr)) ≤ 2147483647 by omega)) hC bits nr ((mi_shl 1 bits) - 1) ((((min j3 4095) + 128) / 256)) (by omega) (by omega) (by omega) (show nr = nr by omega) b7 (by show (((((min j3 4095) + 128) / 256) + 2) + (3 * nr)) = _; rw [← b7]; unfold zPt; first | (rw [if_neg (show ¬ j3 < 128 by omega)]; omega) | rw [if_neg (show ¬ j3 < 128 by omega)]) (by show (((4 * (((min j3 4095) + 128) / 256)) + 3) + (5 * nr)) = _; rw [← b7]; unfold zPt; first | (rw [if_neg (show ¬ j3 < 128 by omega)]; omega) | rw [if_neg (show ¬ j3 < 128 by omega)]) (by show (((17 * (((min j3 4095) + 128) / 256)) + 4) + (7 * nr)) = _; rw [← b7]; unfold zPt; first | (rw [if_neg (show ¬ j3 < 128 by omega)]; omega) | rw [if_neg (show ¬ j3 < 128 by omega)]) b14 (by omega)) ?_
        rintro _ _ ⟨s19, r20, rfl, rfl, hS19, f21, b22, k23⟩
        exact ⟨s19, r20, rfl, rfl, hS19, (fr_tr (fr_us (by decide) (fr_us (by decide) (fr_us (by decide) (fr_us (by decide) (fr_us (by decide) (fr_us (by decide) fr_rf)))))) f21 (by decide)), by omega, k23⟩
      · show tt Zi d 144 (58, [some (.inr (.inl 30)), some (.inr (.inl 32)), some (.inl bits), some (.inl nr), some (.inl ((mi_shl 1 bits) - 1)), none, none], [], n, D, (us (us (us s 3017 j3) 3018 nr) 3022 j10), p, c) _
        refine tt_k 5 (S' := (67, [some (.inr (.inl 30)), some (.inr (.inl 32)), some (.inl bits), some (.inl nr), some (.inl ((mi_shl 1 bits) - 1)), none, none], [.inl (j3 + 1), .inl 256], n, D, (us (us (us s 3017 j3) 3018 nr) 3022 j10), p, c)) rfl ?_
        refine tt_dvp (x := 256) (y := (j3 + 1)) rfl (by omega) ?_
        show tt Zi d 144 (68, [some (.inr (.inl 30)), some (.inr (.inl 32)), some (.inl bits), some (.inl nr), some (.inl ((mi_shl 1 bits) - 1)), none, none], [.inl (256 / (j3 + 1))], n, D, (us (us (us s 3017 j3) 3018 nr) 3022 j10), p, c) _
        have b24 : 0 ≤ (256 / (j3 + 1)) ∧ (256 / (j3 + 1)) ≤ 256 := td_le (by omega) (by omega)
        have b25 : 1 ≤ (256 / (j3 + 1)) := dv_ge1 (by omega) (by omega)
        refine tt_k 5 (S' := (75, [some (.inr (.inl 30)), some (.inr (.inl 32)), some (.inl bits), some (.inl nr), some (.inl ((mi_shl 1 bits) - 1)), some (.inl (256 / (j3 + 1))), none], [.inl (256 / (j3 + 1)), .inl 3, .inl 2, .inr (.inl 30)], n, D, (us (us (us s 3017 j3) 3018 nr) 3022 j10), p, c)) rfl ?_
        refine tt_dvp (x := 3) (y := (256 / (j3 + 1))) rfl (by omega) ?_
        show tt Zi d 144 (76, [some (.inr (.inl 30)), some (.inr (.inl 32)), some (.inl bits), some (.inl nr), some (.inl ((mi_shl 1 bits) - 1)), some (.inl (256 / (j3 + 1))), none], [.inl ((3 / (256 / (j3 + 1)))), .inl 2, .inr (.inl 30)], n, D, (us (us (us s 3017 j3) 3018 nr) 3022 j10), p, c) _
        have b26 : 0 ≤ (3 / (256 / (j3 + 1))) ∧ (3 / (256 / (j3 + 1))) ≤ 3 := td_le (by omega) (by omega)
        refine tt_k 5 (S' := (83, [some (.inr (.inl 30)), some (.inr (.inl 32)), some (.inl bits), some (.inl nr), some (.inl ((mi_shl 1 bits) - 1)), some (.inl (256 / (j3 + 1))), none], [.inl (((3 / (256 / (j3 + 1))) + (3 * nr))), .inl 2, .inr (.inl 30)], n, D, (us (us (us s 3017 j3) 3018 nr) 3022 j10), p, c)) rfl ?_
        refine tt_cl (by omega) rfl (k_more (Zi := Zi) (D := D) (s := (us (us (us s 3017 j3) 3018 nr) 3022 j10)) (p := p) (c := c) (by omega) (bS_us (bS_us (bS_us hS (show 0 ≤ j3 ∧ j3 ≤ 65535 by omega)) (show -2147483648 ≤ nr ∧ nr ≤ 2147483647 by omega)) (show 0 ≤ j10 ∧ j10 ≤ 65535 by omega)) hC 2 (((3 / (256 / (j3 + 1))) + (3 * nr))) (by omega) (by omega)) ?_
        rintro _ _ ⟨r27, rfl, rfl, b28, k29⟩
        show tt Zi d 144 (86, [some (.inr (.inl 30)), some (.inr (.inl 32)), some (.inl bits), some (.inl nr), some (.inl ((mi_shl 1 bits) - 1)), some (.inl (256 / (j3 + 1))), none], [.inl r27, .inr (.inl 30)], n, D, (us (us (us s 3017 j3) 3018 nr) 3022 j10), p, c) _
        replace k29 : r27 = max 2 (((3 / (256 / (j3 + 1))) + (3 * nr))) := k29
        subst k29
        show tt Zi d 144 (86, [some (.inr (.inl 30)), some (.inr (.inl 32)), some (.inl bits), some (.inl nr), some (.inl ((mi_shl 1 bits) - 1)), some (.inl (256 / (j3 + 1))), none], [.inl ((max 2 (((3 / (256 / (j3 + 1))) + (3 * nr))))), .inr (.inl 30)], n, D, (us (us (us s 3017 j3) 3018 nr) 3022 j10), p, c) _
        refine tt_k 5 (S' := (95, [some (.inr (.inl 30)), some (.inr (.inl 32)), some (.inl bits), some (.inl nr), some (.inl ((mi_shl 1 bits) - 1)), some (.inl (256 / (j3 + 1))), none], [.inl (256 / (j3 + 1)), .inl 7, .inl 3, .inr (.inl 30)], n, D, (us (us (us (us s 3017 j3) 3018 nr) 3022 j10) 3019 ((max 2 (((3 / (256 / (j3 + 1))) + (3 * nr)))))), p, c)) rfl ?_
        refine tt_dvp (x := 7) (y := (256 / (j3 + 1))) rfl (by omega) ?_
        show tt Zi d 144 (96, [some (.inr (.inl 30)), some (.inr (.inl 32)), some (.inl bits), some (.inl nr), some (.inl ((mi_shl 1 bits) - 1)), some (.inl (256 / (j3 + 1))), none], [.inl ((7 / (256 / (j3 + 1)))), .inl 3, .inr (.inl 30)], n, D, (us (us (us (us s 3017 j3) 3018 nr) 3022 j10) 3019 ((max 2 (((3 / (256 / (j3 + 1))) + (3 * nr)))))), p, c) _
        have b30 : 0 ≤ (7 / (256 / (j3 + 1))) ∧ (7 / (256 / (j3 + 1))) ≤ 7 := td_le (by omega) (by omega)
        refine tt_k 5 (S' := (103, [some (.inr (.inl 30)), some (.inr (.inl 32)), some (.inl bits), some (.inl nr), some (.inl ((mi_shl 1 bits) - 1)), some (.inl (256 / (j3 + 1))), none], [.inl (((7 / (256 / (j3 + 1))) + (5 * nr))), .inl 3, .inr (.inl 30)], n, D, (us (us (us (us s 3017 j3) 3018 nr) 3022 j10) 3019 ((max 2 (((3 / (256 / (j3 + 1))) + (3 * nr)))))), p, c)) rfl ?_
        refine tt_cl (by omega) rfl (k_more (Zi := Zi) (D := D) (s := (us (us (us (us s 3017 j3) 3018 nr) 3022 j10) 3019 ((max 2 (((3 / (256 / (j3 + 1))) + (3 * nr))))))) (p := p) (c := c) (by omega) (bS_us (bS_us (bS_us (bS_us hS (show 0 ≤ j3 ∧ j3 ≤ 65535 by omega)) (show -2147483648 ≤ nr ∧ nr ≤ 2147483647 by omega)) (show 0 ≤ j10 ∧ j10 ≤ 65535 by omega)) (show -2147483648 ≤ (max 2 (((3 / (256 / (j3 + 1))) + (3 * nr)))) ∧ (max 2 (((3 / (256 / (j3 + 1))) + (3 * nr)))) ≤ 2147483647 by omega)) hC 3 (((7 / (256 / (j3 + 1))) + (5 * nr))) (by omega) (by omega)) ?_
        rintro _ _ ⟨r31, rfl, rfl, b32, k33⟩
        show tt Zi d 144 (106, [some (.inr (.inl 30)), some (.inr (.inl 32)), some (.inl bits), some (.inl nr), some (.inl ((mi_shl 1 bits) - 1)), some (.inl (256 / (j3 + 1))), none], [.inl r31, .inr (.inl 30)], n, D, (us (us (us (us s 3017 j3) 3018 nr) 3022 j10) 3019 ((max 2 (((3 / (256 / (j3 + 1))) + (3 * nr)))))), p, c) _
        replace k33 : r31 = max 3 (((7 / (256 / (j3 + 1))) + (5 * nr))) := k33
        subst k33
        show tt Zi d 144 (106, [some (.inr (.inl 30)), some (.inr (.inl 32)), some (.inl bits), some (.inl nr), some (.inl ((mi_shl 1 bits) - 1)), some (.inl (256 / (j3 + 1))), none], [.inl ((max 3 (((7 / (256 / (j3 + 1))) + (5 * nr))))), .inr (.inl 30)], n, D, (us (us (us (us s 3017 j3) 3018 nr) 3022 j10) 3019 ((max 2 (((3 / (256 / (j3 + 1))) + (3 * nr)))))), p, c) _
        refine tt_k 5 (S' := (115, [some (.inr (.inl 30)), some (.inr (.inl 32)), some (.inl bits), some (.inl nr), some (.inl ((mi_shl 1 bits) - 1)), some (.inl (256 / (j3 + 1))), none], [.inl (256 / (j3 + 1)), .inl 21, .inl 4, .inr (.inl 30)], n, D, (us (us (us (us (us s 3017 j3) 3018 nr) 3022 j10) 3019 ((max 2 (((3 / (256 / (j3 + 1))) + (3 * nr)))))) 3020 ((max 3 (((7 / (256 / (j3 + 1))) + (5 * nr)))))), p, c)) rfl ?_
        refine tt_dvp (x := 21) (y := (256 / (j3 + 1))) rfl (by omega) ?_
        show tt Zi d 144 (116, [some (.inr (.inl 30)), some (.inr (.inl 32)), some (.inl bits), some (.inl nr), some (.inl ((mi_shl 1 bits) - 1)), some (.inl (256 / (j3 + 1))), none], [.inl ((21 / (256 / (j3 + 1)))), .inl 4, .inr (.inl 30)], n, D, (us (us (us (us (us s 3017 j3) 3018 nr) 3022 j10) 3019 ((max 2 (((3 / (256 / (j3 + 1))) + (3 * nr)))))) 3020 ((max 3 (((7 / (256 / (j3 + 1))) + (5 * nr)))))), p, c) _
        have b34 : 0 ≤ (21 / (256 / (j3 + 1))) ∧ (21 / (256 / (j3 + 1))) ≤ 21 := td_le (by omega) (by omega)
        refine tt_k 5 (S' := (124, [some (.inr (.inl 30)), some (.inr (.inl 32)), some (.inl bits), some (.inl nr), some (.inl ((mi_shl 1 bits) - 1)), some (.inl (256 / (j3 + 1))), none], [.inl (((21 / (256 / (j3 + 1))) + (7 * nr))), .inl 4, .inr (.inl 30)], n, D, (us (us (us (us (us s 3017 j3) 3018 nr) 3022 j10) 3019 ((max 2 (((3 / (256 / (j3 + 1))) + (3 * nr)))))) 3020 ((max 3 (((7 / (256 / (j3 + 1))) + (5 * nr)))))), p, c)) rfl ?_
        refine tt_cl (by omega) rfl (k_more (Zi := Zi) (D := D) (s := (us (us (us (us (us s 3017 j3) 3018 nr) 3022 j10) 3019 ((max 2 (((3 / (256 / (j3 + 1))) + (3 * nr)))))) 3020 ((max 3 (((7 / (256 / (j3 + 1))) + (5 * nr))))))) (p := p) (c := c) (by omega) (bS_us (bS_us (bS_us (bS_us (bS_us hS (show 0 ≤ j3 ∧ j3 ≤ 65535 by omega)) (show -2147483648 ≤ nr ∧ nr ≤ 2147483647 by omega)) (show 0 ≤ j10 ∧ j10 ≤ 65535 by omega)) (show -2147483648 ≤ (max 2 (((3 / (256 / (j3 + 1))) + (3 * nr)))) ∧ (max 2 (((3 / (256 / (j3 + 1))) + (3 * nr)))) ≤ 2147483647 by omega)) (show -2147483648 ≤ (max 3 (((7 / (256 / (j3 + 1))) + (5 * nr)))) ∧ (max 3 (((7 / (256 / (j3 + 1))) + (5 * nr)))) ≤ 2147483647 by omega)) hC 4 (((21 / (256 / (j3 + 1))) + (7 * nr))) (by omega) (by omega)) ?_
        rintro _ _ ⟨r35, rfl, rfl, b36, k37⟩
        show tt Zi d 144 (127, [some (.inr (.inl 30)), some (.inr (.inl 32)), some (.inl bits), some (.inl nr), some (.inl ((mi_shl 1 bits) - 1)), some (.inl (256 / (j3 + 1))), none], [.inl r35, .inr (.inl 30)], n, D, (us (us (us (us (us s 3017 j3) 3018 nr) 3022 j10) 3019 ((max 2 (((3 / (256 / (j3 + 1))) + (3 * nr)))))) 3020 ((max 3 (((7 / (256 / (j3 + 1))) + (5 * nr)))))), p, c) _
        replace k37 : r35 = max 4 (((21 / (256 / (j3 + 1))) + (7 * nr))) := k37
        subst k37
        show tt Zi d 144 (127, [some (.inr (.inl 30)), some (.inr (.inl 32)), some (.inl bits), some (.inl nr), some (.inl ((mi_shl 1 bits) - 1)), some (.inl (256 / (j3 + 1))), none], [.inl ((max 4 (((21 / (256 / (j3 + 1))) + (7 * nr))))), .inr (.inl 30)], n, D, (us (us (us (us (us s 3017 j3) 3018 nr) 3022 j10) 3019 ((max 2 (((3 / (256 / (j3 + 1))) + (3 * nr)))))) 3020 ((max 3 (((7 / (256 / (j3 + 1))) + (5 * nr)))))), p, c) _
        refine tt_k 2 (S' := (204, [some (.inr (.inl 30)), some (.inr (.inl 32)), some (.inl bits), some (.inl nr), some (.inl ((mi_shl 1 bits) - 1)), some (.inl (256 / (j3 + 1))), none], [], n, D, (us (us (us (us (us (us s 3017 j3) 3018 nr) 3022 j10) 3019 ((max 2 (((3 / (256 / (j3 + 1))) + (3 * nr)))))) 3020 ((max 3 (((7 / (256 / (j3 + 1))) + (5 * nr)))))) 3021 ((max 4 (((21 / (256 / (j3 + 1))) + (7 * nr)))))), p, c)) rfl ?_
        refine tt_mono (x_measCP (Zi := Zi) (D := D) (s := (us (us (us (us (us (us s 3017 j3) 3018 nr) 3022 j10) 3019 ((max 2 (((3 / (256 / (j3 + 1))) + (3 * nr)))))) 3020 ((max 3 (((7 / (256 / (j3 + 1))) + (5 * nr)))))) 3021 ((max 4 (((21 / (256 / (j3 + 1))) + (7 * nr))))))) (p := p) (c := c) (by omega) (bS_us (bS_us (bS_us (bS_us (bS_us (bS_us hS (show 0 ≤ j3 ∧ j3 ≤ 65535 by omega)) (show -2147483648 ≤ nr ∧ nr ≤ 2147483647 by omega)) (show 0 ≤ j10 ∧ j10 ≤ 65535 by omega)) (show -2147483648 ≤ (max 2 (((3 / (256 / (j3 + 1))) + (3 * nr)))) ∧ (max 2 (((3 / (256 / (j3 + 1))) + (3 * nr)))) ≤ 2147483647 by omega)) (show -2147483648 ≤ (max 3 (((7 / (256 / (j3 + 1))) + (5 * nr)))) ∧ (max 3 (((7 / (256 / (j3 + 1))) + (5 * nr)))) ≤ 2147483647 by omega)) (show -2147483648 ≤ (max 4 (((21 / (256 / (j3 + 1))) + (7 * nr)))) ∧ (max 4 (((21 / (256 / (j3 + 1))) + (7 * nr)))) ≤ 2147483647 by omega)) hC bits nr ((mi_shl 1 bits) - 1) (256 / (j3 + 1)) (by omega) (by omega) (by omega) (show nr = nr by omega) b7 (by show (max 2 (((3 / (256 / (j3 + 1))) + (3 * nr)))) = _; rw [← b7]; unfold zPt; first | (rw [if_pos (show j3 < 128 by omega)]; omega) | rw [if_pos (show j3 < 128 by omega)]) (by show (max 3 (((7 / (256 / (j3 + 1))) + (5 * nr)))) = _; rw [← b7]; unfold zPt; first | (rw [if_pos (show j3 < 128 by omega)]; omega) | rw [if_pos (show j3 < 128 by omega)]) (by show (max 4 (((21 / (256 / (j3 + 1))) + (7 * nr)))) = _; rw [← b7]; unfold zPt; first | (rw [if_pos (show j3 < 128 by omega)]; omega) | rw [if_pos (show j3 < 128 by omega)]) b14 (by omega)) ?_
        rintro _ _ ⟨s38, r39, rfl, rfl, hS38, f40, b41, k42⟩
        exact ⟨s38, r39, rfl, rfl, hS38, (fr_tr (fr_us (by decide) (fr_us (by decide) (fr_us (by decide) (fr_us (by decide) (fr_us (by decide) (fr_us (by decide) fr_rf)))))) f40 (by decide)), by omega, k42⟩
    refine tz_ne (x := (c 32 (4 : Int).toNat)) rfl rfl (by omega) (fun h43 => ?_) (fun h43 => ?_)
    · show tt Zi d 144 (42, [some (.inr (.inl 30)), some (.inr (.inl 32)), some (.inl bits), some (.inl nr), some (.inl ((mi_shl 1 bits) - 1)), none, none], [.inr (.inl 30)], n, D, (us (us s 3017 j3) 3018 nr), p, c) _
      refine tt_k 2 (S' := (44, [some (.inr (.inl 30)), some (.inr (.inl 32)), some (.inl bits), some (.inl nr), some (.inl ((mi_shl 1 bits) - 1)), none, none], [.inl 4, .inr (.inl 32), .inr (.inl 30)], n, D, (us (us s 3017 j3) 3018 nr), p, c)) rfl ?_
      refine tt_ildv (i := 4) (v := (c 32 (4 : Int).toNat)) rfl rfl (by omega) rfl ?_
      show tt Zi d 144 (45, [some (.inr (.inl 30)), some (.inr (.inl 32)), some (.inl bits), some (.inl nr), some (.inl ((mi_shl 1 bits) - 1)), none, none], [.inl (c 32 (4 : Int).toNat), .inr (.inl 30)], n, D, (us (us s 3017 j3) 3018 nr), p, c) _
      exact K11 (c 32 (4 : Int).toNat)  (by omega) (by unfold zHa; first | (rw [if_neg (by omega)]; omega) | (rw [if_pos (by omega)])) (trivial)
    · show tt Zi d 144 (37, [some (.inr (.inl 30)), some (.inr (.inl 32)), some (.inl bits), some (.inl nr), some (.inl ((mi_shl 1 bits) - 1)), none, none], [.inr (.inl 30)], n, D, (us (us s 3017 j3) 3018 nr), p, c) _
      refine tt_k 2 (S' := (45, [some (.inr (.inl 30)), some (.inr (.inl 32)), some (.inl bits), some (.inl nr), some (.inl ((mi_shl 1 bits) - 1)), none, none], [.inl 64, .inr (.inl 30)], n, D, (us (us s 3017 j3) 3018 nr), p, c)) rfl ?_
      exact K11 64  (by omega) (by unfold zHa; first | (rw [if_neg (by omega)]; omega) | (rw [if_pos (by omega)])) (trivial)
  refine tz_ne (x := (c 32 (0 : Int).toNat)) rfl rfl (by omega) (fun h44 => ?_) (fun h44 => ?_)
  · show tt Zi d 144 (19, [some (.inr (.inl 30)), some (.inr (.inl 32)), some (.inl bits), some (.inl nr), some (.inl ((mi_shl 1 bits) - 1)), none, none], [.inr (.inl 30)], n, D, s, p, c) _
    refine tt_k 2 (S' := (21, [some (.inr (.inl 30)), some (.inr (.inl 32)), some (.inl bits), some (.inl nr), some (.inl ((mi_shl 1 bits) - 1)), none, none], [.inl 0, .inr (.inl 32), .inr (.inl 30)], n, D, s, p, c)) rfl ?_
    refine tt_ildv (i := 0) (v := (c 32 (0 : Int).toNat)) rfl rfl (by omega) rfl ?_
    show tt Zi d 144 (22, [some (.inr (.inl 30)), some (.inr (.inl 32)), some (.inl bits), some (.inl nr), some (.inl ((mi_shl 1 bits) - 1)), none, none], [.inl (c 32 (0 : Int).toNat), .inr (.inl 30)], n, D, s, p, c) _
    exact K4 (c 32 (0 : Int).toNat)  (by omega) (by unfold zMo; first | (rw [if_neg (by omega)]; omega) | (rw [if_pos (by omega)]; omega)) (by omega) (trivial)
  · show tt Zi d 144 (14, [some (.inr (.inl 30)), some (.inr (.inl 32)), some (.inl bits), some (.inl nr), some (.inl ((mi_shl 1 bits) - 1)), none, none], [.inr (.inl 30)], n, D, s, p, c) _
    refine tt_k 2 (S' := (22, [some (.inr (.inl 30)), some (.inr (.inl 32)), some (.inl bits), some (.inl nr), some (.inl ((mi_shl 1 bits) - 1)), none, none], [.inl ((mi_shl 1 bits) - 1), .inr (.inl 30)], n, D, s, p, c)) rfl ?_
    exact K4 ((mi_shl 1 bits) - 1)  (by omega) (by unfold zMo; first | (rw [if_neg (by omega)]; omega) | (rw [if_pos (by omega)]; omega)) (by omega) (trivial)
set_option maxRecDepth 100000 in
set_option maxHeartbeats 4000000 in
theorem x_measDP_L329 {Zi : Nat → Option (Nat × (Nat → Int))} {d n : Nat} {D : Nat → Nat × Nat} {s : Nat → Int} {p : Nat → Nat} {c : Nat → Nat → Int} {o_1 : Option mi_V} {o_2 : Option mi_V} {o_3 : Option mi_V} {o_4 : Option mi_V} {o_5 : Option mi_V} {o_6 : Option mi_V} {Q : mi_Rs → mi_H → Prop} (hd : 2 ≤ d) (hS : bS s) (hC : bC D c) (hq0 : s 3024 ≤ 65537)
  (hK : ∀ (s0 : Nat → Int) (hS0 : bS s0) (hF0 : fr s s0 [3025]) (i0 : 0 ≤ s0 3025 ∧ s0 3025 ≤ 17), (True) → tt Zi d 144 (355, [some (.inr (.inl 30)), o_1, o_2, o_3, o_4, o_5, o_6], [], n, D, s0, p, c) Q) :
  ∀ (m : Nat) (s0 : Nat → Int) (hS0 : bS s0) (hF0 : fr s s0 [3025]) (i0 : 0 ≤ s0 3025 ∧ s0 3025 ≤ 17), (18 - s0 3025).toNat < m → tt Zi d 144 (329, [some (.inr (.inl 30)), o_1, o_2, o_3, o_4, o_5, o_6], [], n, D, s0, p, c) Q := by
  intro m
  induction m with
  | zero => intro s0 hS0 hF0 i0 hm; exact absurd hm (by omega)
  | succ m ih =>
    intro s0 hS0 hF0 i0 hm
    have e1 : s0 3017 = s 3017 := hF0 3017 (by decide)
    have b2 : 0 ≤ (s0 3017) ∧ (s0 3017) ≤ 65535 := hS0 3017
    have b3 : 0 ≤ (s 3017) ∧ (s 3017) ≤ 65535 := hS 3017
    have e4 : s0 3018 = s 3018 := hF0 3018 (by decide)
    have b5 : -2147483648 ≤ (s0 3018) ∧ (s0 3018) ≤ 2147483647 := hS0 3018
    have b6 : -2147483648 ≤ (s 3018) ∧ (s 3018) ≤ 2147483647 := hS 3018
    have e7 : s0 3019 = s 3019 := hF0 3019 (by decide)
    have b8 : -2147483648 ≤ (s0 3019) ∧ (s0 3019) ≤ 2147483647 := hS0 3019
    have b9 : -2147483648 ≤ (s 3019) ∧ (s 3019) ≤ 2147483647 := hS 3019
    have e10 : s0 3020 = s 3020 := hF0 3020 (by decide)
    have b11 : -2147483648 ≤ (s0 3020) ∧ (s0 3020) ≤ 2147483647 := hS0 3020
    have b12 : -2147483648 ≤ (s 3020) ∧ (s 3020) ≤ 2147483647 := hS 3020
    have e13 : s0 3021 = s 3021 := hF0 3021 (by decide)
    have b14 : -2147483648 ≤ (s0 3021) ∧ (s0 3021) ≤ 2147483647 := hS0 3021
    have b15 : -2147483648 ≤ (s 3021) ∧ (s 3021) ≤ 2147483647 := hS 3021
    have e16 : s0 3022 = s 3022 := hF0 3022 (by decide)
    have b17 : 0 ≤ (s0 3022) ∧ (s0 3022) ≤ 65535 := hS0 3022
    have b18 : 0 ≤ (s 3022) ∧ (s 3022) ≤ 65535 := hS 3022
    have e19 : s0 3023 = s 3023 := hF0 3023 (by decide)
    have b20 : -2147483648 ≤ (s0 3023) ∧ (s0 3023) ≤ 2147483647 := hS0 3023
    have b21 : -2147483648 ≤ (s 3023) ∧ (s 3023) ≤ 2147483647 := hS 3023
    have e22 : s0 3024 = s 3024 := hF0 3024 (by decide)
    have b23 : -2147483648 ≤ (s0 3024) ∧ (s0 3024) ≤ 2147483647 := hS0 3024
    have b24 : -2147483648 ≤ (s 3024) ∧ (s 3024) ≤ 2147483647 := hS 3024
    refine tt_k 6 (S' := (339, [some (.inr (.inl 30)), o_1, o_2, o_3, o_4, o_5, o_6], [.inl (s0 3024), .inl (mi_shl 1 (s0 3025))], n, D, s0, p, c)) rfl ?_
    have b25 : 0 ≤ (s0 3025) ∧ (s0 3025) ≤ 31 := hS0 3025
    have e26 : 1 ≤ (mi_shl 1 (s0 3025)) ∧ (mi_shl 1 (s0 3025)) ≤ 131072 := mi_shl1b 0 17 (by omega) (by omega) (by decide)
    refine tb_ge (x := (mi_shl 1 (s0 3025))) (y := (s0 3024)) rfl rfl (by omega) (fun h27 => ?_) (fun h27 => ?_)
    · show tt Zi d 144 (355, [some (.inr (.inl 30)), o_1, o_2, o_3, o_4, o_5, o_6], [], n, D, s0, p, c) _
      exact hK s0 hS0 hF0 i0 trivial
    · show tt Zi d 144 (342, [some (.inr (.inl 30)), o_1, o_2, o_3, o_4, o_5, o_6], [], n, D, s0, p, c) _
      refine tt_k 7 (S' := (329, [some (.inr (.inl 30)), o_1, o_2, o_3, o_4, o_5, o_6], [], n, D, (us s0 3025 ((s0 3025) + 1)), p, c)) rfl ?_
      have hsh := mi_shl1i (k := s0 3025) (by omega) (by omega)
      have hq16 := pw_17 (q := s0 3025) (by omega) (by omega)
      exact ih  (us s0 3025 ((s0 3025) + 1)) (bS_us hS0 (show 0 ≤ ((s0 3025) + 1) ∧ ((s0 3025) + 1) ≤ 31 by omega)) (fr_us (by decide) hF0) (show 0 ≤ ((s0 3025) + 1) ∧ ((s0 3025) + 1) ≤ 17 by omega) (show (18 - ((s0 3025) + 1)).toNat < m by omega)

set_option maxRecDepth 100000 in
set_option maxHeartbeats 4000000 in
theorem x_measDP_L358 {Zi : Nat → Option (Nat × (Nat → Int))} {d n : Nat} {D : Nat → Nat × Nat} {s : Nat → Int} {p : Nat → Nat} {c : Nat → Nat → Int} {o_1 : Option mi_V} {o_2 : Option mi_V} {o_3 : Option mi_V} {o_4 : Option mi_V} {o_6 : Option mi_V} {Q : mi_Rs → mi_H → Prop} (hd : 2 ≤ d) (hS : bS s) (hC : bC D c) (hq0 : s 3017 ≤ 65535)
  (hK : ∀ (b : Int) (b_b : 2 ≤ b ∧ b ≤ 16), (True) → tt Zi d 144 (375, [some (.inr (.inl 30)), o_1, o_2, o_3, o_4, some (.inl b), o_6], [], n, D, s, p, c) Q) :
  ∀ (m : Nat) (b : Int) (b_b : 2 ≤ b ∧ b ≤ 16), (16 - b).toNat < m → tt Zi d 144 (358, [some (.inr (.inl 30)), o_1, o_2, o_3, o_4, some (.inl b), o_6], [], n, D, s, p, c) Q := by
  intro m
  induction m with
  | zero => intro b b_b hm; exact absurd hm (by omega)
  | succ m ih =>
    intro b b_b hm
    refine tt_k 5 (S' := (366, [some (.inr (.inl 30)), o_1, o_2, o_3, o_4, some (.inl b), o_6], [.inl (s 3017), .inl (mi_shl 1 b)], n, D, s, p, c)) rfl ?_
    have e1 : 4 ≤ (mi_shl 1 b) ∧ (mi_shl 1 b) ≤ 65536 := mi_shl1b 2 16 (by omega) (by omega) (by decide)
    have b2 : 0 ≤ (s 3017) ∧ (s 3017) ≤ 65535 := hS 3017
    refine tb_gt (x := (mi_shl 1 b)) (y := (s 3017)) rfl rfl (by omega) (fun h3 => ?_) (fun h3 => ?_)
    · show tt Zi d 144 (375, [some (.inr (.inl 30)), o_1, o_2, o_3, o_4, some (.inl b), o_6], [], n, D, s, p, c) _
      exact hK b (by omega) trivial
    · show tt Zi d 144 (369, [some (.inr (.inl 30)), o_1, o_2, o_3, o_4, some (.inl b), o_6], [], n, D, s, p, c) _
      refine tt_k 2 (S' := (358, [some (.inr (.inl 30)), o_1, o_2, o_3, o_4, some (.inl (b + 1)), o_6], [], n, D, s, p, c)) rfl ?_
      have hsh := mi_shl1i (k := b) (by omega) (by omega)
      have hb16 := pw_17 (q := b) (by omega) (by omega)
      have hb15 : b ≤ 15 := by have e : b = 16 → (2 : Int) ^ b.toNat = 65536 := (by intro hq; rw [hq]; decide); omega
      exact ih (b + 1)  (by omega) (show (16 - (b + 1)).toNat < m by omega)
set_option maxRecDepth 100000 in
set_option maxHeartbeats 4000000 in
theorem x_measDP {Zi : Nat → Option (Nat × (Nat → Int))} {d n : Nat} {D : Nat → Nat × Nat} {s : Nat → Int} {p : Nat → Nat} {c : Nat → Nat → Int} (hd : 2 ≤ d) (hS : bS s) (hC : bC D c) (bits : Int) (nr : Int) (top : Int) (f_ : Int) (b_bits : 2 ≤ bits ∧ bits ≤ 16) (b_nr : -2147483648 ≤ nr ∧ nr ≤ 2147483647) (b_top : 3 ≤ top ∧ top ≤ 65535) (hp0 : s 3018 = nr) : tt Zi d 144 (204, [some (.inr (.inl 30)), some (.inr (.inl 32)), some (.inl bits), some (.inl nr), some (.inl top), some (.inl f_), none], [], n, D, s, p, c) (fun R H => ∃ (s' : Nat → Int) (r : Int), R = .inl (some (.inl r)) ∧ H = (n, D, s', p, c) ∧ bS s' ∧ fr s s' [3017, 3018, 3019, 3020, 3021, 3022, 3023, 3024, 3025, 3026] ∧ (0 ≤ r ∧ r ≤ 1) ∧ (r = 1 → 0 ≤ nr ∧ nr ≤ 255)) := by
  refine tt_k 3 (S' := (207, [some (.inr (.inl 30)), some (.inr (.inl 32)), some (.inl bits), some (.inl nr), some (.inl top), some (.inl f_), none], [.inl 1, .inr (.inl 32), .inr (.inl 30)], n, D, s, p, c)) rfl ?_
  refine tt_ildv (i := 1) (v := (c 32 (1 : Int).toNat)) rfl rfl (by omega) rfl ?_
  show tt Zi d 144 (208, [some (.inr (.inl 30)), some (.inr (.inl 32)), some (.inl bits), some (.inl nr), some (.inl top), some (.inl f_), none], [.inl (c 32 (1 : Int).toNat), .inr (.inl 30)], n, D, s, p, c) _
  have b1 : 0 ≤ (c 32 (1 : Int).toNat) ∧ (c 32 (1 : Int).toNat) ≤ 65535 := hC 32 _
  have K3 : ∀ (j2 : Int) , (-2147483648 ≤ j2 ∧ j2 ≤ 2147483647) → (True) → tt Zi d 144 (231, [some (.inr (.inl 30)), some (.inr (.inl 32)), some (.inl bits), some (.inl nr), some (.inl top), some (.inl f_), none], [.inl j2, .inr (.inl 30)], n, D, s, p, c) (fun R H => ∃ (s' : Nat → Int) (r : Int), R = .inl (some (.inl r)) ∧ H = (n, D, s', p, c) ∧ bS s' ∧ fr s s' [3017, 3018, 3019, 3020, 3021, 3022, 3023, 3024, 3025, 3026] ∧ (0 ≤ r ∧ r ≤ 1) ∧ (r = 1 → 0 ≤ nr ∧ nr ≤ 255)) := by
    intro j2 b5 hj4
    refine tt_k 4 (S' := (237, [some (.inr (.inl 30)), some (.inr (.inl 32)), some (.inl bits), some (.inl nr), some (.inl top), some (.inl f_), none], [.inl 2, .inr (.inl 32), .inr (.inl 30)], n, D, (us s 3019 j2), p, c)) rfl ?_
    refine tt_ildv (i := 2) (v := (c 32 (2 : Int).toNat)) rfl rfl (by omega) rfl ?_
    show tt Zi d 144 (238, [some (.inr (.inl 30)), some (.inr (.inl 32)), some (.inl bits), some (.inl nr), some (.inl top), some (.inl f_), none], [.inl (c 32 (2 : Int).toNat), .inr (.inl 30)], n, D, (us s 3019 j2), p, c) _
    have b6 : 0 ≤ (c 32 (2 : Int).toNat) ∧ (c 32 (2 : Int).toNat) ≤ 65535 := hC 32 _
    have K8 : ∀ (j7 : Int) , (-2147483648 ≤ j7 ∧ j7 ≤ 2147483647) → (True) → tt Zi d 144 (259, [some (.inr (.inl 30)), some (.inr (.inl 32)), some (.inl bits), some (.inl nr), some (.inl top), some (.inl f_), none], [.inl j7, .inr (.inl 30)], n, D, (us s 3019 j2), p, c) (fun R H => ∃ (s' : Nat → Int) (r : Int), R = .inl (some (.inl r)) ∧ H = (n, D, s', p, c) ∧ bS s' ∧ fr s s' [3017, 3018, 3019, 3020, 3021, 3022, 3023, 3024, 3025, 3026] ∧ (0 ≤ r ∧ r ≤ 1) ∧ (r = 1 → 0 ≤ nr ∧ nr ≤ 255)) := by
      intro j7 b10 hj9
      refine tt_k 4 (S' := (265, [some (.inr (.inl 30)), some (.inr (.inl 32)), some (.inl bits), some (.inl nr), some (.inl top), some (.inl f_), none], [.inl 3, .inr (.inl 32), .inr (.inl 30)], n, D, (us (us s 3019 j2) 3020 j7), p, c)) rfl ?_
      refine tt_ildv (i := 3) (v := (c 32 (3 : Int).toNat)) rfl rfl (by omega) rfl ?_
      show tt Zi d 144 (266, [some (.inr (.inl 30)), some (.inr (.inl 32)), some (.inl bits), some (.inl nr), some (.inl top), some (.inl f_), none], [.inl (c 32 (3 : Int).toNat), .inr (.inl 30)], n, D, (us (us s 3019 j2) 3020 j7), p, c) _
      have b11 : 0 ≤ (c 32 (3 : Int).toNat) ∧ (c 32 (3 : Int).toNat) ≤ 65535 := hC 32 _
      have K13 : ∀ (j12 : Int) , (-2147483648 ≤ j12 ∧ j12 ≤ 2147483647) → (True) → tt Zi d 144 (287, [some (.inr (.inl 30)), some (.inr (.inl 32)), some (.inl bits), some (.inl nr), some (.inl top), some (.inl f_), none], [.inl j12, .inr (.inl 30)], n, D, (us (us s 3019 j2) 3020 j7), p, c) (fun R H => ∃ (s' : Nat → Int) (r : Int), R = .inl (some (.inl r)) ∧ H = (n, D, s', p, c) ∧ bS s' ∧ fr s s' [3017, 3018, 3019, 3020, 3021, 3022, 3023, 3024, 3025, 3026] ∧ (0 ≤ r ∧ r ≤ 1) ∧ (r = 1 → 0 ≤ nr ∧ nr ≤ 255)) := by
        intro j12 b15 hj14
        refine tt_k 8 (S' := (299, [some (.inr (.inl 30)), some (.inr (.inl 32)), some (.inl bits), some (.inl nr), some (.inl top), some (.inl f_), none], [.inl (((2 * (s 3018)) + 1)), .inr (.inl 30)], n, D, (us (us (us s 3019 j2) 3020 j7) 3021 j12), p, c)) rfl ?_
        have b17 : -2147483648 ≤ (s 3018) ∧ (s 3018) ≤ 2147483647 := hS 3018
        refine tt_wm (x := ((2 * (s 3018)) + 1)) ?_
        intro v16 b18 w19
        show tt Zi d 144 (299, [some (.inr (.inl 30)), some (.inr (.inl 32)), some (.inl bits), some (.inl nr), some (.inl top), some (.inl f_), none], [.inl v16, .inr (.inl 30)], n, D, (us (us (us s 3019 j2) 3020 j7) 3021 j12), p, c) _
        refine tt_k 9 (S' := (314, [some (.inr (.inl 30)), some (.inr (.inl 32)), some (.inl bits), some (.inl nr), some (.inl top), some (.inl f_), none], [.inl (((s 3017) + (2 * (s 3018)))), .inr (.inl 30)], n, D, (us (us (us (us s 3019 j2) 3020 j7) 3021 j12) 3023 v16), p, c)) rfl ?_
        have b21 : 0 ≤ (s 3017) ∧ (s 3017) ≤ 65535 := hS 3017
        refine tt_wm (x := ((s 3017) + (2 * (s 3018)))) ?_
        intro v20 b22 w23
        show tt Zi d 144 (314, [some (.inr (.inl 30)), some (.inr (.inl 32)), some (.inl bits), some (.inl nr), some (.inl top), some (.inl f_), none], [.inl v20, .inr (.inl 30)], n, D, (us (us (us (us s 3019 j2) 3020 j7) 3021 j12) 3023 v16), p, c) _
        refine tt_k 1 (S' := (315, [some (.inr (.inl 30)), some (.inr (.inl 32)), some (.inl bits), some (.inl nr), some (.inl top), some (.inl f_), none], [.inr (.inl 30), .inl v20, .inr (.inl 30)], n, D, (us (us (us (us s 3019 j2) 3020 j7) 3021 j12) 3023 v16), p, c)) rfl ?_
        refine tt_k 1 (S' := (318, [some (.inr (.inl 30)), some (.inr (.inl 32)), some (.inl bits), some (.inl nr), some (.inl top), some (.inl f_), none], [.inl v16, .inl v20, .inr (.inl 30)], n, D, (us (us (us (us s 3019 j2) 3020 j7) 3021 j12) 3023 v16), p, c)) rfl ?_
        refine tt_dvn (x := v20) (y := v16) rfl (by omega) (by omega) (by omega) ?_
        show tt Zi d 144 (319, [some (.inr (.inl 30)), some (.inr (.inl 32)), some (.inl bits), some (.inl nr), some (.inl top), some (.inl f_), none], [.inl (Int.tdiv v20 v16), .inr (.inl 30)], n, D, (us (us (us (us s 3019 j2) 3020 j7) 3021 j12) 3023 v16), p, c) _
        have hrb := rng_bd (most := (s 3017)) (X := v20) (Y := v16) (by omega) (by omega) (by omega) (by omega) (by omega)
        refine tt_k 2 (S' := (321, [some (.inr (.inl 30)), some (.inr (.inl 32)), some (.inl bits), some (.inl nr), some (.inl top), some (.inl f_), none], [.inl ((Int.tdiv v20 v16) + 1), .inr (.inl 30)], n, D, (us (us (us (us s 3019 j2) 3020 j7) 3021 j12) 3023 v16), p, c)) rfl ?_
        refine tt_wm (x := ((Int.tdiv v20 v16) + 1)) ?_
        intro v24 b25 w26
        show tt Zi d 144 (321, [some (.inr (.inl 30)), some (.inr (.inl 32)), some (.inl bits), some (.inl nr), some (.inl top), some (.inl f_), none], [.inl v24, .inr (.inl 30)], n, D, (us (us (us (us s 3019 j2) 3020 j7) 3021 j12) 3023 v16), p, c) _
        refine tt_k 4 (S' := (329, [some (.inr (.inl 30)), some (.inr (.inl 32)), some (.inl bits), some (.inl nr), some (.inl top), some (.inl f_), none], [], n, D, (us (us (us (us (us (us s 3019 j2) 3020 j7) 3021 j12) 3023 v16) 3024 v24) 3025 0), p, c)) rfl ?_
        refine x_measDP_L329 (Zi := Zi) (D := D) (s := (us (us (us (us (us (us s 3019 j2) 3020 j7) 3021 j12) 3023 v16) 3024 v24) 3025 0)) (p := p) (c := c) hd (bS_us (bS_us (bS_us (bS_us (bS_us (bS_us hS (show -2147483648 ≤ j2 ∧ j2 ≤ 2147483647 by omega)) (show -2147483648 ≤ j7 ∧ j7 ≤ 2147483647 by omega)) (show -2147483648 ≤ j12 ∧ j12 ≤ 2147483647 by omega)) (show -2147483648 ≤ v16 ∧ v16 ≤ 2147483647 by omega)) (show -2147483648 ≤ v24 ∧ v24 ≤ 2147483647 by omega)) (show 0 ≤ 0 ∧ 0 ≤ 31 by omega)) hC   (show v24 ≤ 65537 by omega) ?_ _  (us (us (us (us (us (us s 3019 j2) 3020 j7) 3021 j12) 3023 v16) 3024 v24) 3025 0) (bS_us (bS_us (bS_us (bS_us (bS_us (bS_us hS (show -2147483648 ≤ j2 ∧ j2 ≤ 2147483647 by omega)) (show -2147483648 ≤ j7 ∧ j7 ≤ 2147483647 by omega)) (show -2147483648 ≤ j12 ∧ j12 ≤ 2147483647 by omega)) (show -2147483648 ≤ v16 ∧ v16 ≤ 2147483647 by omega)) (show -2147483648 ≤ v24 ∧ v24 ≤ 2147483647 by omega)) (show 0 ≤ 0 ∧ 0 ≤ 31 by omega)) fr_rf (show (0 : Int) ≤ 0 ∧ (0 : Int) ≤ 17 by decide) (Nat.lt_succ_self _)
        intro s27 hS27 f28 i29 hx30
        show tt Zi d 144 (355, [some (.inr (.inl 30)), some (.inr (.inl 32)), some (.inl bits), some (.inl nr), some (.inl top), some (.inl f_), none], [], n, D, s27, p, c) _
        have e31 : s27 3017 = (s 3017) := (f28 3017 (by decide))
        have b32 : 0 ≤ (s27 3017) ∧ (s27 3017) ≤ 65535 := hS27 3017
        have e33 : s27 3018 = (s 3018) := (f28 3018 (by decide))
        have b34 : -2147483648 ≤ (s27 3018) ∧ (s27 3018) ≤ 2147483647 := hS27 3018
        have e35 : s27 3019 = j2 := (f28 3019 (by decide))
        have b36 : -2147483648 ≤ (s27 3019) ∧ (s27 3019) ≤ 2147483647 := hS27 3019
        have e37 : s27 3020 = j7 := (f28 3020 (by decide))
        have b38 : -2147483648 ≤ (s27 3020) ∧ (s27 3020) ≤ 2147483647 := hS27 3020
        have e39 : s27 3021 = j12 := (f28 3021 (by decide))
        have b40 : -2147483648 ≤ (s27 3021) ∧ (s27 3021) ≤ 2147483647 := hS27 3021
        have e41 : s27 3022 = (s 3022) := (f28 3022 (by decide))
        have b42 : 0 ≤ (s27 3022) ∧ (s27 3022) ≤ 65535 := hS27 3022
        have b43 : 0 ≤ (s 3022) ∧ (s 3022) ≤ 65535 := hS 3022
        have e44 : s27 3023 = v16 := (f28 3023 (by decide))
        have b45 : -2147483648 ≤ (s27 3023) ∧ (s27 3023) ≤ 2147483647 := hS27 3023
        have e46 : s27 3024 = v24 := (f28 3024 (by decide))
        have b47 : -2147483648 ≤ (s27 3024) ∧ (s27 3024) ≤ 2147483647 := hS27 3024
        refine tt_k 2 (S' := (358, [some (.inr (.inl 30)), some (.inr (.inl 32)), some (.inl bits), some (.inl nr), some (.inl top), some (.inl 2), none], [], n, D, s27, p, c)) rfl ?_
        refine x_measDP_L358 (Zi := Zi) (D := D) (s := s27) (p := p) (c := c) hd hS27 hC   (show (s27 3017) ≤ 65535 by omega) ?_ _ 2  (by omega) (Nat.lt_succ_self _)
        intro x48 b49 hx50
        show tt Zi d 144 (375, [some (.inr (.inl 30)), some (.inr (.inl 32)), some (.inl bits), some (.inl nr), some (.inl top), some (.inl x48), none], [], n, D, s27, p, c) _
        refine tt_k 5 (S' := (383, [some (.inr (.inl 30)), some (.inr (.inl 32)), some (.inl bits), some (.inl nr), some (.inl top), some (.inl x48), none], [.inl x48, .inl 8, .inl x48, .inl 2, .inr (.inl 30)], n, D, s27, p, c)) rfl ?_
        refine tt_cl (by omega) rfl (k_more (Zi := Zi) (D := D) (s := s27) (p := p) (c := c) (by omega) hS27 hC 8 x48 (by omega) (by omega)) ?_
        rintro _ _ ⟨r51, rfl, rfl, b52, k53⟩
        show tt Zi d 144 (386, [some (.inr (.inl 30)), some (.inr (.inl 32)), some (.inl bits), some (.inl nr), some (.inl top), some (.inl x48), none], [.inl r51, .inl x48, .inl 2, .inr (.inl 30)], n, D, s27, p, c) _
        replace k53 : r51 = max 8 x48 := k53
        subst k53
        show tt Zi d 144 (386, [some (.inr (.inl 30)), some (.inr (.inl 32)), some (.inl bits), some (.inl nr), some (.inl top), some (.inl x48), none], [.inl (max 8 x48), .inl x48, .inl 2, .inr (.inl 30)], n, D, s27, p, c) _
        refine tt_k 7 (S' := (397, [some (.inr (.inl 30)), some (.inr (.inl 32)), some (.inl bits), some (.inl nr), some (.inl top), some (.inl x48), none], [.inl ((s27 3018) + 1)], n, D, (us s27 3026 ((2 * (x48 + (max 8 x48))))), p, c)) rfl ?_
        refine tt_wm (x := ((s27 3018) + 1)) ?_
        intro v54 b55 w56
        show tt Zi d 144 (397, [some (.inr (.inl 30)), some (.inr (.inl 32)), some (.inl bits), some (.inl nr), some (.inl top), some (.inl x48), none], [.inl v54], n, D, (us s27 3026 ((2 * (x48 + (max 8 x48))))), p, c) _
        refine tt_k 2 (S' := (401, [some (.inr (.inl 30)), some (.inr (.inl 32)), some (.inl bits), some (.inl nr), some (.inl top), some (.inl x48), none], [.inl (s27 3019), .inl v54], n, D, (us s27 3026 ((2 * (x48 + (max 8 x48))))), p, c)) rfl ?_
        have K58 : ∀ (j57 : Int) , (0 ≤ j57 ∧ j57 ≤ 1) → (True) → tt Zi d 144 (442, [some (.inr (.inl 30)), some (.inr (.inl 32)), some (.inl bits), some (.inl nr), some (.inl top), some (.inl x48), none], [.inl j57], n, D, (us s27 3026 ((2 * (x48 + (max 8 x48))))), p, c) (fun R H => ∃ (s' : Nat → Int) (r : Int), R = .inl (some (.inl r)) ∧ H = (n, D, s', p, c) ∧ bS s' ∧ fr s s' [3017, 3018, 3019, 3020, 3021, 3022, 3023, 3024, 3025, 3026] ∧ (0 ≤ r ∧ r ≤ 1) ∧ (r = 1 → 0 ≤ nr ∧ nr ≤ 255)) := by
          intro j57 b60 hj59
          refine tt_k 4 (S' := (450, [some (.inr (.inl 30)), some (.inr (.inl 32)), some (.inl bits), some (.inl nr), some (.inl top), some (.inl x48), some (.inl j57)], [.inl top, .inl (s27 3017)], n, D, (us s27 3026 ((2 * (x48 + (max 8 x48))))), p, c)) rfl ?_
          refine tb_gt (x := (s27 3017)) (y := top) rfl rfl (by omega) (fun h61 => ?_) (fun h61 => ?_)
          · show tt Zi d 144 (510, [some (.inr (.inl 30)), some (.inr (.inl 32)), some (.inl bits), some (.inl nr), some (.inl top), some (.inl x48), some (.inl j57)], [], n, D, (us s27 3026 ((2 * (x48 + (max 8 x48))))), p, c) _
            refine tt_k 1 (S' := (511, [some (.inr (.inl 30)), some (.inr (.inl 32)), some (.inl bits), some (.inl nr), some (.inl top), some (.inl x48), some (.inl j57)], [.inl 0], n, D, (us s27 3026 ((2 * (x48 + (max 8 x48))))), p, c)) rfl ?_
            exact tt_rtb rfl rfl (by omega) ⟨(us s27 3026 ((2 * (x48 + (max 8 x48))))), 0, rfl, rfl, (bS_us hS27 (show 0 ≤ (2 * (x48 + (max 8 x48))) ∧ (2 * (x48 + (max 8 x48))) ≤ 96 by omega)), (fr_us (by decide) (fr_tr (fr_us (by decide) (fr_us (by decide) (fr_us (by decide) (fr_us (by decide) (fr_us (by decide) (fr_us (by decide) fr_rf)))))) f28 (by decide))), by omega, by show 0 = 1 → 0 ≤ nr ∧ nr ≤ 255; intro hr; omega⟩
          · show tt Zi d 144 (453, [some (.inr (.inl 30)), some (.inr (.inl 32)), some (.inl bits), some (.inl nr), some (.inl top), some (.inl x48), some (.inl j57)], [], n, D, (us s27 3026 ((2 * (x48 + (max 8 x48))))), p, c) _
            refine tt_k 4 (S' := (461, [some (.inr (.inl 30)), some (.inr (.inl 32)), some (.inl bits), some (.inl nr), some (.inl top), some (.inl x48), some (.inl j57)], [.inl 255, .inl 0, .inl (s27 3018)], n, D, (us s27 3026 ((2 * (x48 + (max 8 x48))))), p, c)) rfl ?_
            refine tt_cl (by omega) rfl (k_isIn (Zi := Zi) (D := D) (s := (us s27 3026 ((2 * (x48 + (max 8 x48)))))) (p := p) (c := c) (by omega) (bS_us hS27 (show 0 ≤ (2 * (x48 + (max 8 x48))) ∧ (2 * (x48 + (max 8 x48))) ≤ 96 by omega)) hC (s27 3018) 0 255 (by omega) (by omega) (by omega)) ?_
            rintro _ _ ⟨r62, rfl, rfl, b63, k64⟩
            show tt Zi d 144 (464, [some (.inr (.inl 30)), some (.inr (.inl 32)), some (.inl bits), some (.inl nr), some (.inl top), some (.inl x48), some (.inl j57)], [.inl r62], n, D, (us s27 3026 ((2 * (x48 + (max 8 x48))))), p, c) _
            replace k64 : r62 = if 0 ≤ (s27 3018) ∧ (s27 3018) ≤ 255 then (1 : Int) else 0 := k64
            subst k64
            show tt Zi d 144 (464, [some (.inr (.inl 30)), some (.inr (.inl 32)), some (.inl bits), some (.inl nr), some (.inl top), some (.inl x48), some (.inl j57)], [.inl (if 0 ≤ (s27 3018) ∧ (s27 3018) ≤ 255 then (1 : Int) else 0)], n, D, (us s27 3026 ((2 * (x48 + (max 8 x48))))), p, c) _
            refine tz_eq (x := (if 0 ≤ (s27 3018) ∧ (s27 3018) ≤ 255 then (1 : Int) else 0)) rfl rfl (by omega) (fun h65 => ?_) (fun h65 => ?_)
            · show tt Zi d 144 (510, [some (.inr (.inl 30)), some (.inr (.inl 32)), some (.inl bits), some (.inl nr), some (.inl top), some (.inl x48), some (.inl j57)], [], n, D, (us s27 3026 ((2 * (x48 + (max 8 x48))))), p, c) _
              refine tt_k 1 (S' := (511, [some (.inr (.inl 30)), some (.inr (.inl 32)), some (.inl bits), some (.inl nr), some (.inl top), some (.inl x48), some (.inl j57)], [.inl 0], n, D, (us s27 3026 ((2 * (x48 + (max 8 x48))))), p, c)) rfl ?_
              exact tt_rtb rfl rfl (by omega) ⟨(us s27 3026 ((2 * (x48 + (max 8 x48))))), 0, rfl, rfl, (bS_us hS27 (show 0 ≤ (2 * (x48 + (max 8 x48))) ∧ (2 * (x48 + (max 8 x48))) ≤ 96 by omega)), (fr_us (by decide) (fr_tr (fr_us (by decide) (fr_us (by decide) (fr_us (by decide) (fr_us (by decide) (fr_us (by decide) (fr_us (by decide) fr_rf)))))) f28 (by decide))), by omega, by show 0 = 1 → 0 ≤ nr ∧ nr ≤ 255; intro hr; omega⟩
            · show tt Zi d 144 (467, [some (.inr (.inl 30)), some (.inr (.inl 32)), some (.inl bits), some (.inl nr), some (.inl top), some (.inl x48), some (.inl j57)], [], n, D, (us s27 3026 ((2 * (x48 + (max 8 x48))))), p, c) _
              refine tt_k 5 (S' := (476, [some (.inr (.inl 30)), some (.inr (.inl 32)), some (.inl bits), some (.inl nr), some (.inl top), some (.inl x48), some (.inl j57)], [.inl 2, .inl (s27 3017), .inl (s27 3018)], n, D, (us s27 3026 ((2 * (x48 + (max 8 x48))))), p, c)) rfl ?_
              refine tt_dvp (x := (s27 3017)) (y := 2) rfl (by omega) ?_
              show tt Zi d 144 (477, [some (.inr (.inl 30)), some (.inr (.inl 32)), some (.inl bits), some (.inl nr), some (.inl top), some (.inl x48), some (.inl j57)], [.inl ((s27 3017) / 2), .inl (s27 3018)], n, D, (us s27 3026 ((2 * (x48 + (max 8 x48))))), p, c) _
              refine tb_gt (x := (s27 3018)) (y := ((s27 3017) / 2)) rfl rfl (by omega) (fun h66 => ?_) (fun h66 => ?_)
              · show tt Zi d 144 (510, [some (.inr (.inl 30)), some (.inr (.inl 32)), some (.inl bits), some (.inl nr), some (.inl top), some (.inl x48), some (.inl j57)], [], n, D, (us s27 3026 ((2 * (x48 + (max 8 x48))))), p, c) _
                refine tt_k 1 (S' := (511, [some (.inr (.inl 30)), some (.inr (.inl 32)), some (.inl bits), some (.inl nr), some (.inl top), some (.inl x48), some (.inl j57)], [.inl 0], n, D, (us s27 3026 ((2 * (x48 + (max 8 x48))))), p, c)) rfl ?_
                exact tt_rtb rfl rfl (by omega) ⟨(us s27 3026 ((2 * (x48 + (max 8 x48))))), 0, rfl, rfl, (bS_us hS27 (show 0 ≤ (2 * (x48 + (max 8 x48))) ∧ (2 * (x48 + (max 8 x48))) ≤ 96 by omega)), (fr_us (by decide) (fr_tr (fr_us (by decide) (fr_us (by decide) (fr_us (by decide) (fr_us (by decide) (fr_us (by decide) (fr_us (by decide) fr_rf)))))) f28 (by decide))), by omega, by show 0 = 1 → 0 ≤ nr ∧ nr ≤ 255; intro hr; omega⟩
              · show tt Zi d 144 (480, [some (.inr (.inl 30)), some (.inr (.inl 32)), some (.inl bits), some (.inl nr), some (.inl top), some (.inl x48), some (.inl j57)], [], n, D, (us s27 3026 ((2 * (x48 + (max 8 x48))))), p, c) _
                refine tt_k 1 (S' := (482, [some (.inr (.inl 30)), some (.inr (.inl 32)), some (.inl bits), some (.inl nr), some (.inl top), some (.inl x48), some (.inl j57)], [.inl j57], n, D, (us s27 3026 ((2 * (x48 + (max 8 x48))))), p, c)) rfl ?_
                refine tz_eq (x := j57) rfl rfl (by omega) (fun h67 => ?_) (fun h67 => ?_)
                · show tt Zi d 144 (510, [some (.inr (.inl 30)), some (.inr (.inl 32)), some (.inl bits), some (.inl nr), some (.inl top), some (.inl x48), some (.inl j57)], [], n, D, (us s27 3026 ((2 * (x48 + (max 8 x48))))), p, c) _
                  refine tt_k 1 (S' := (511, [some (.inr (.inl 30)), some (.inr (.inl 32)), some (.inl bits), some (.inl nr), some (.inl top), some (.inl x48), some (.inl j57)], [.inl 0], n, D, (us s27 3026 ((2 * (x48 + (max 8 x48))))), p, c)) rfl ?_
                  exact tt_rtb rfl rfl (by omega) ⟨(us s27 3026 ((2 * (x48 + (max 8 x48))))), 0, rfl, rfl, (bS_us hS27 (show 0 ≤ (2 * (x48 + (max 8 x48))) ∧ (2 * (x48 + (max 8 x48))) ≤ 96 by omega)), (fr_us (by decide) (fr_tr (fr_us (by decide) (fr_us (by decide) (fr_us (by decide) (fr_us (by decide) (fr_us (by decide) (fr_us (by decide) fr_rf)))))) f28 (by decide))), by omega, by show 0 = 1 → 0 ≤ nr ∧ nr ≤ 255; intro hr; omega⟩
                · show tt Zi d 144 (485, [some (.inr (.inl 30)), some (.inr (.inl 32)), some (.inl bits), some (.inl nr), some (.inl top), some (.inl x48), some (.inl j57)], [], n, D, (us s27 3026 ((2 * (x48 + (max 8 x48))))), p, c) _
                  refine tt_k 6 (S' := (497, [some (.inr (.inl 30)), some (.inr (.inl 32)), some (.inl bits), some (.inl nr), some (.inl top), some (.inl x48), some (.inl j57)], [.inl (s27 3017), .inl 255, .inl 3, .inl (s27 3022)], n, D, (us s27 3026 ((2 * (x48 + (max 8 x48))))), p, c)) rfl ?_
                  refine tt_cl (by omega) rfl (k_more (Zi := Zi) (D := D) (s := (us s27 3026 ((2 * (x48 + (max 8 x48)))))) (p := p) (c := c) (by omega) (bS_us hS27 (show 0 ≤ (2 * (x48 + (max 8 x48))) ∧ (2 * (x48 + (max 8 x48))) ≤ 96 by omega)) hC 255 (s27 3017) (by omega) (by omega)) ?_
                  rintro _ _ ⟨r68, rfl, rfl, b69, k70⟩
                  show tt Zi d 144 (500, [some (.inr (.inl 30)), some (.inr (.inl 32)), some (.inl bits), some (.inl nr), some (.inl top), some (.inl x48), some (.inl j57)], [.inl r68, .inl 3, .inl (s27 3022)], n, D, (us s27 3026 ((2 * (x48 + (max 8 x48))))), p, c) _
                  replace k70 : r68 = max 255 (s27 3017) := k70
                  subst k70
                  show tt Zi d 144 (500, [some (.inr (.inl 30)), some (.inr (.inl 32)), some (.inl bits), some (.inl nr), some (.inl top), some (.inl x48), some (.inl j57)], [.inl (max 255 (s27 3017)), .inl 3, .inl (s27 3022)], n, D, (us s27 3026 ((2 * (x48 + (max 8 x48))))), p, c) _
                  refine tt_cl (by omega) rfl (k_isIn (Zi := Zi) (D := D) (s := (us s27 3026 ((2 * (x48 + (max 8 x48)))))) (p := p) (c := c) (by omega) (bS_us hS27 (show 0 ≤ (2 * (x48 + (max 8 x48))) ∧ (2 * (x48 + (max 8 x48))) ≤ 96 by omega)) hC (s27 3022) 3 (max 255 (s27 3017)) (by omega) (by omega) (by omega)) ?_
                  rintro _ _ ⟨r71, rfl, rfl, b72, k73⟩
                  show tt Zi d 144 (503, [some (.inr (.inl 30)), some (.inr (.inl 32)), some (.inl bits), some (.inl nr), some (.inl top), some (.inl x48), some (.inl j57)], [.inl r71], n, D, (us s27 3026 ((2 * (x48 + (max 8 x48))))), p, c) _
                  replace k73 : r71 = if 3 ≤ (s27 3022) ∧ (s27 3022) ≤ (max 255 (s27 3017)) then (1 : Int) else 0 := k73
                  subst k73
                  show tt Zi d 144 (503, [some (.inr (.inl 30)), some (.inr (.inl 32)), some (.inl bits), some (.inl nr), some (.inl top), some (.inl x48), some (.inl j57)], [.inl ((if 3 ≤ (s27 3022) ∧ (s27 3022) ≤ (max 255 (s27 3017)) then (1 : Int) else 0))], n, D, (us s27 3026 ((2 * (x48 + (max 8 x48))))), p, c) _
                  refine tz_eq (x := (if 3 ≤ (s27 3022) ∧ (s27 3022) ≤ (max 255 (s27 3017)) then (1 : Int) else 0)) rfl rfl (by omega) (fun h74 => ?_) (fun h74 => ?_)
                  · show tt Zi d 144 (510, [some (.inr (.inl 30)), some (.inr (.inl 32)), some (.inl bits), some (.inl nr), some (.inl top), some (.inl x48), some (.inl j57)], [], n, D, (us s27 3026 ((2 * (x48 + (max 8 x48))))), p, c) _
                    refine tt_k 1 (S' := (511, [some (.inr (.inl 30)), some (.inr (.inl 32)), some (.inl bits), some (.inl nr), some (.inl top), some (.inl x48), some (.inl j57)], [.inl 0], n, D, (us s27 3026 ((2 * (x48 + (max 8 x48))))), p, c)) rfl ?_
                    exact tt_rtb rfl rfl (by omega) ⟨(us s27 3026 ((2 * (x48 + (max 8 x48))))), 0, rfl, rfl, (bS_us hS27 (show 0 ≤ (2 * (x48 + (max 8 x48))) ∧ (2 * (x48 + (max 8 x48))) ≤ 96 by omega)), (fr_us (by decide) (fr_tr (fr_us (by decide) (fr_us (by decide) (fr_us (by decide) (fr_us (by decide) (fr_us (by decide) (fr_us (by decide) fr_rf)))))) f28 (by decide))), by omega, by show 0 = 1 → 0 ≤ nr ∧ nr ≤ 255; intro hr; omega⟩
                  · show tt Zi d 144 (506, [some (.inr (.inl 30)), some (.inr (.inl 32)), some (.inl bits), some (.inl nr), some (.inl top), some (.inl x48), some (.inl j57)], [], n, D, (us s27 3026 ((2 * (x48 + (max 8 x48))))), p, c) _
                    refine tt_k 2 (S' := (511, [some (.inr (.inl 30)), some (.inr (.inl 32)), some (.inl bits), some (.inl nr), some (.inl top), some (.inl x48), some (.inl j57)], [.inl 1], n, D, (us s27 3026 ((2 * (x48 + (max 8 x48))))), p, c)) rfl ?_
                    exact tt_rtb rfl rfl (by omega) ⟨(us s27 3026 ((2 * (x48 + (max 8 x48))))), 1, rfl, rfl, (bS_us hS27 (show 0 ≤ (2 * (x48 + (max 8 x48))) ∧ (2 * (x48 + (max 8 x48))) ≤ 96 by omega)), (fr_us (by decide) (fr_tr (fr_us (by decide) (fr_us (by decide) (fr_us (by decide) (fr_us (by decide) (fr_us (by decide) (fr_us (by decide) fr_rf)))))) f28 (by decide))), by omega, by show 1 = 1 → 0 ≤ nr ∧ nr ≤ 255; intro hr; omega⟩
        refine tb_gt (x := v54) (y := (s27 3019)) rfl rfl (by omega) (fun h75 => ?_) (fun h75 => ?_)
        · show tt Zi d 144 (441, [some (.inr (.inl 30)), some (.inr (.inl 32)), some (.inl bits), some (.inl nr), some (.inl top), some (.inl x48), none], [], n, D, (us s27 3026 ((2 * (x48 + (max 8 x48))))), p, c) _
          refine tt_k 1 (S' := (442, [some (.inr (.inl 30)), some (.inr (.inl 32)), some (.inl bits), some (.inl nr), some (.inl top), some (.inl x48), none], [.inl 0], n, D, (us s27 3026 ((2 * (x48 + (max 8 x48))))), p, c)) rfl ?_
          exact K58 0  (by omega) (trivial)
        · show tt Zi d 144 (404, [some (.inr (.inl 30)), some (.inr (.inl 32)), some (.inl bits), some (.inl nr), some (.inl top), some (.inl x48), none], [], n, D, (us s27 3026 ((2 * (x48 + (max 8 x48))))), p, c) _
          refine tt_k 4 (S' := (412, [some (.inr (.inl 30)), some (.inr (.inl 32)), some (.inl bits), some (.inl nr), some (.inl top), some (.inl x48), none], [.inl (s27 3020), .inl (s27 3019)], n, D, (us s27 3026 ((2 * (x48 + (max 8 x48))))), p, c)) rfl ?_
          refine tb_gt (x := (s27 3019)) (y := (s27 3020)) rfl rfl (by omega) (fun h76 => ?_) (fun h76 => ?_)
          · show tt Zi d 144 (441, [some (.inr (.inl 30)), some (.inr (.inl 32)), some (.inl bits), some (.inl nr), some (.inl top), some (.inl x48), none], [], n, D, (us s27 3026 ((2 * (x48 + (max 8 x48))))), p, c) _
            refine tt_k 1 (S' := (442, [some (.inr (.inl 30)), some (.inr (.inl 32)), some (.inl bits), some (.inl nr), some (.inl top), some (.inl x48), none], [.inl 0], n, D, (us s27 3026 ((2 * (x48 + (max 8 x48))))), p, c)) rfl ?_
            exact K58 0  (by omega) (trivial)
          · show tt Zi d 144 (415, [some (.inr (.inl 30)), some (.inr (.inl 32)), some (.inl bits), some (.inl nr), some (.inl top), some (.inl x48), none], [], n, D, (us s27 3026 ((2 * (x48 + (max 8 x48))))), p, c) _
            refine tt_k 4 (S' := (423, [some (.inr (.inl 30)), some (.inr (.inl 32)), some (.inl bits), some (.inl nr), some (.inl top), some (.inl x48), none], [.inl (s27 3021), .inl (s27 3020)], n, D, (us s27 3026 ((2 * (x48 + (max 8 x48))))), p, c)) rfl ?_
            refine tb_gt (x := (s27 3020)) (y := (s27 3021)) rfl rfl (by omega) (fun h77 => ?_) (fun h77 => ?_)
            · show tt Zi d 144 (441, [some (.inr (.inl 30)), some (.inr (.inl 32)), some (.inl bits), some (.inl nr), some (.inl top), some (.inl x48), none], [], n, D, (us s27 3026 ((2 * (x48 + (max 8 x48))))), p, c) _
              refine tt_k 1 (S' := (442, [some (.inr (.inl 30)), some (.inr (.inl 32)), some (.inl bits), some (.inl nr), some (.inl top), some (.inl x48), none], [.inl 0], n, D, (us s27 3026 ((2 * (x48 + (max 8 x48))))), p, c)) rfl ?_
              exact K58 0  (by omega) (trivial)
            · show tt Zi d 144 (426, [some (.inr (.inl 30)), some (.inr (.inl 32)), some (.inl bits), some (.inl nr), some (.inl top), some (.inl x48), none], [], n, D, (us s27 3026 ((2 * (x48 + (max 8 x48))))), p, c) _
              refine tt_k 4 (S' := (434, [some (.inr (.inl 30)), some (.inr (.inl 32)), some (.inl bits), some (.inl nr), some (.inl top), some (.inl x48), none], [.inl (s27 3017), .inl (s27 3021)], n, D, (us s27 3026 ((2 * (x48 + (max 8 x48))))), p, c)) rfl ?_
              refine tb_gt (x := (s27 3021)) (y := (s27 3017)) rfl rfl (by omega) (fun h78 => ?_) (fun h78 => ?_)
              · show tt Zi d 144 (441, [some (.inr (.inl 30)), some (.inr (.inl 32)), some (.inl bits), some (.inl nr), some (.inl top), some (.inl x48), none], [], n, D, (us s27 3026 ((2 * (x48 + (max 8 x48))))), p, c) _
                refine tt_k 1 (S' := (442, [some (.inr (.inl 30)), some (.inr (.inl 32)), some (.inl bits), some (.inl nr), some (.inl top), some (.inl x48), none], [.inl 0], n, D, (us s27 3026 ((2 * (x48 + (max 8 x48))))), p, c)) rfl ?_
                exact K58 0  (by omega) (trivial)
              · show tt Zi d 144 (437, [some (.inr (.inl 30)), some (.inr (.inl 32)), some (.inl bits), some (.inl nr), some (.inl top), some (.inl x48), none], [], n, D, (us s27 3026 ((2 * (x48 + (max 8 x48))))), p, c) _
                refine tt_k 2 (S' := (442, [some (.inr (.inl 30)), some (.inr (.inl 32)), some (.inl bits), some (.inl nr), some (.inl top), some (.inl x48), none], [.inl 1], n, D, (us s27 3026 ((2 * (x48 + (max 8 x48))))), p, c)) rfl ?_
                exact K58 1  (by omega) (trivial)
      refine tz_ne (x := (c 32 (3 : Int).toNat)) rfl rfl (by omega) (fun h79 => ?_) (fun h79 => ?_)
      · show tt Zi d 144 (284, [some (.inr (.inl 30)), some (.inr (.inl 32)), some (.inl bits), some (.inl nr), some (.inl top), some (.inl f_), none], [.inr (.inl 30)], n, D, (us (us s 3019 j2) 3020 j7), p, c) _
        refine tt_k 2 (S' := (286, [some (.inr (.inl 30)), some (.inr (.inl 32)), some (.inl bits), some (.inl nr), some (.inl top), some (.inl f_), none], [.inl 3, .inr (.inl 32), .inr (.inl 30)], n, D, (us (us s 3019 j2) 3020 j7), p, c)) rfl ?_
        refine tt_ildv (i := 3) (v := (c 32 (3 : Int).toNat)) rfl rfl (by omega) rfl ?_
        show tt Zi d 144 (287, [some (.inr (.inl 30)), some (.inr (.inl 32)), some (.inl bits), some (.inl nr), some (.inl top), some (.inl f_), none], [.inl (c 32 (3 : Int).toNat), .inr (.inl 30)], n, D, (us (us s 3019 j2) 3020 j7), p, c) _
        exact K13 (c 32 (3 : Int).toNat)  (by omega) (trivial)
      · show tt Zi d 144 (269, [some (.inr (.inl 30)), some (.inr (.inl 32)), some (.inl bits), some (.inl nr), some (.inl top), some (.inl f_), none], [.inr (.inl 30)], n, D, (us (us s 3019 j2) 3020 j7), p, c) _
        refine tt_k 5 (S' := (278, [some (.inr (.inl 30)), some (.inr (.inl 32)), some (.inl bits), some (.inl nr), some (.inl top), some (.inl f_), none], [.inl j7, .inl (s 3021), .inr (.inl 30), .inr (.inl 30)], n, D, (us (us s 3019 j2) 3020 j7), p, c)) rfl ?_
        have b80 : -2147483648 ≤ (s 3021) ∧ (s 3021) ≤ 2147483647 := hS 3021
        refine tt_cl (by omega) rfl (k_plain2 (Zi := Zi) (D := D) (s := (us (us s 3019 j2) 3020 j7)) (p := p) (c := c) (by omega) (bS_us (bS_us hS (show -2147483648 ≤ j2 ∧ j2 ≤ 2147483647 by omega)) (show -2147483648 ≤ j7 ∧ j7 ≤ 2147483647 by omega)) hC (s 3021) j7 (by omega) (by omega)) ?_
        rintro _ _ ⟨r81, rfl, rfl, b82, k83⟩
        show tt Zi d 144 (281, [some (.inr (.inl 30)), some (.inr (.inl 32)), some (.inl bits), some (.inl nr), some (.inl top), some (.inl f_), none], [.inl r81, .inr (.inl 30)], n, D, (us (us s 3019 j2) 3020 j7), p, c) _
        replace k83 : r81 = zPl (s 3021) j7 ((s 3017)) := k83
        have b84 : 0 ≤ (s 3017) ∧ (s 3017) ≤ 65535 := hS 3017
        refine tt_k 1 (S' := (287, [some (.inr (.inl 30)), some (.inr (.inl 32)), some (.inl bits), some (.inl nr), some (.inl top), some (.inl f_), none], [.inl r81, .inr (.inl 30)], n, D, (us (us s 3019 j2) 3020 j7), p, c)) rfl ?_
        exact K13 r81  (by omega) (trivial)
    refine tz_ne (x := (c 32 (2 : Int).toNat)) rfl rfl (by omega) (fun h85 => ?_) (fun h85 => ?_)
    · show tt Zi d 144 (256, [some (.inr (.inl 30)), some (.inr (.inl 32)), some (.inl bits), some (.inl nr), some (.inl top), some (.inl f_), none], [.inr (.inl 30)], n, D, (us s 3019 j2), p, c) _
      refine tt_k 2 (S' := (258, [some (.inr (.inl 30)), some (.inr (.inl 32)), some (.inl bits), some (.inl nr), some (.inl top), some (.inl f_), none], [.inl 2, .inr (.inl 32), .inr (.inl 30)], n, D, (us s 3019 j2), p, c)) rfl ?_
      refine tt_ildv (i := 2) (v := (c 32 (2 : Int).toNat)) rfl rfl (by omega) rfl ?_
      show tt Zi d 144 (259, [some (.inr (.inl 30)), some (.inr (.inl 32)), some (.inl bits), some (.inl nr), some (.inl top), some (.inl f_), none], [.inl (c 32 (2 : Int).toNat), .inr (.inl 30)], n, D, (us s 3019 j2), p, c) _
      exact K8 (c 32 (2 : Int).toNat)  (by omega) (trivial)
    · show tt Zi d 144 (241, [some (.inr (.inl 30)), some (.inr (.inl 32)), some (.inl bits), some (.inl nr), some (.inl top), some (.inl f_), none], [.inr (.inl 30)], n, D, (us s 3019 j2), p, c) _
      refine tt_k 5 (S' := (250, [some (.inr (.inl 30)), some (.inr (.inl 32)), some (.inl bits), some (.inl nr), some (.inl top), some (.inl f_), none], [.inl j2, .inl (s 3020), .inr (.inl 30), .inr (.inl 30)], n, D, (us s 3019 j2), p, c)) rfl ?_
      have b86 : -2147483648 ≤ (s 3020) ∧ (s 3020) ≤ 2147483647 := hS 3020
      refine tt_cl (by omega) rfl (k_plain2 (Zi := Zi) (D := D) (s := (us s 3019 j2)) (p := p) (c := c) (by omega) (bS_us hS (show -2147483648 ≤ j2 ∧ j2 ≤ 2147483647 by omega)) hC (s 3020) j2 (by omega) (by omega)) ?_
      rintro _ _ ⟨r87, rfl, rfl, b88, k89⟩
      show tt Zi d 144 (253, [some (.inr (.inl 30)), some (.inr (.inl 32)), some (.inl bits), some (.inl nr), some (.inl top), some (.inl f_), none], [.inl r87, .inr (.inl 30)], n, D, (us s 3019 j2), p, c) _
      replace k89 : r87 = zPl (s 3020) j2 ((s 3017)) := k89
      have b90 : 0 ≤ (s 3017) ∧ (s 3017) ≤ 65535 := hS 3017
      refine tt_k 1 (S' := (259, [some (.inr (.inl 30)), some (.inr (.inl 32)), some (.inl bits), some (.inl nr), some (.inl top), some (.inl f_), none], [.inl r87, .inr (.inl 30)], n, D, (us s 3019 j2), p, c)) rfl ?_
      exact K8 r87  (by omega) (trivial)
  refine tz_ne (x := (c 32 (1 : Int).toNat)) rfl rfl (by omega) (fun h91 => ?_) (fun h91 => ?_)
  · show tt Zi d 144 (228, [some (.inr (.inl 30)), some (.inr (.inl 32)), some (.inl bits), some (.inl nr), some (.inl top), some (.inl f_), none], [.inr (.inl 30)], n, D, s, p, c) _
    refine tt_k 2 (S' := (230, [some (.inr (.inl 30)), some (.inr (.inl 32)), some (.inl bits), some (.inl nr), some (.inl top), some (.inl f_), none], [.inl 1, .inr (.inl 32), .inr (.inl 30)], n, D, s, p, c)) rfl ?_
    refine tt_ildv (i := 1) (v := (c 32 (1 : Int).toNat)) rfl rfl (by omega) rfl ?_
    show tt Zi d 144 (231, [some (.inr (.inl 30)), some (.inr (.inl 32)), some (.inl bits), some (.inl nr), some (.inl top), some (.inl f_), none], [.inl (c 32 (1 : Int).toNat), .inr (.inl 30)], n, D, s, p, c) _
    exact K3 (c 32 (1 : Int).toNat)  (by omega) (trivial)
  · show tt Zi d 144 (211, [some (.inr (.inl 30)), some (.inr (.inl 32)), some (.inl bits), some (.inl nr), some (.inl top), some (.inl f_), none], [.inr (.inl 30)], n, D, s, p, c) _
    refine tt_k 7 (S' := (222, [some (.inr (.inl 30)), some (.inr (.inl 32)), some (.inl bits), some (.inl nr), some (.inl top), some (.inl f_), none], [.inl ((s 3018) + 1), .inl (s 3019), .inr (.inl 30), .inr (.inl 30)], n, D, s, p, c)) rfl ?_
    have b93 : -2147483648 ≤ (s 3018) ∧ (s 3018) ≤ 2147483647 := hS 3018
    refine tt_wm (x := ((s 3018) + 1)) ?_
    intro v92 b94 w95
    show tt Zi d 144 (222, [some (.inr (.inl 30)), some (.inr (.inl 32)), some (.inl bits), some (.inl nr), some (.inl top), some (.inl f_), none], [.inl v92, .inl (s 3019), .inr (.inl 30), .inr (.inl 30)], n, D, s, p, c) _
    have b96 : -2147483648 ≤ (s 3019) ∧ (s 3019) ≤ 2147483647 := hS 3019
    refine tt_cl (by omega) rfl (k_plain2 (Zi := Zi) (D := D) (s := s) (p := p) (c := c) (by omega) hS hC (s 3019) v92 (by omega) (by omega)) ?_
    rintro _ _ ⟨r97, rfl, rfl, b98, k99⟩
    show tt Zi d 144 (225, [some (.inr (.inl 30)), some (.inr (.inl 32)), some (.inl bits), some (.inl nr), some (.inl top), some (.inl f_), none], [.inl r97, .inr (.inl 30)], n, D, s, p, c) _
    replace k99 : r97 = zPl (s 3019) v92 ((s 3017)) := k99
    have b100 : 0 ≤ (s 3017) ∧ (s 3017) ≤ 65535 := hS 3017
    refine tt_k 1 (S' := (231, [some (.inr (.inl 30)), some (.inr (.inl 32)), some (.inl bits), some (.inl nr), some (.inl top), some (.inl f_), none], [.inl r97, .inr (.inl 30)], n, D, s, p, c)) rfl ?_
    exact K3 r97  (by omega) (trivial)
set_option maxRecDepth 100000 in
set_option maxHeartbeats 4000000 in
theorem x_measBP {Zi : Nat → Option (Nat × (Nat → Int))} {d n : Nat} {D : Nat → Nat × Nat} {s : Nat → Int} {p : Nat → Nat} {c : Nat → Nat → Int} (hd : 2 ≤ d) (hS : bS s) (hC : bC D c) (bits : Int) (nr : Int) (b_bits : 2 ≤ bits ∧ bits ≤ 16) (b_nr : -2147483648 ≤ nr ∧ nr ≤ 2147483647) : tt Zi d 144 (0, [some (.inr (.inl 30)), some (.inr (.inl 32)), some (.inl bits), some (.inl nr), none, none, none], [], n, D, s, p, c) (fun R H => ∃ (s' : Nat → Int) (r : Int), R = .inl (some (.inl r)) ∧ H = (n, D, s', p, c) ∧ bS s' ∧ fr s s' [3017, 3018, 3019, 3020, 3021, 3022, 3023, 3024, 3025, 3026] ∧ (0 ≤ r ∧ r ≤ 1) ∧ (r = 1 → 0 ≤ nr ∧ nr ≤ 255)) := by
  have e1 : 4 ≤ (mi_shl 1 bits) ∧ (mi_shl 1 bits) ≤ 65536 := mi_shl1b 2 16 (by omega) (by omega) (by decide)
  refine tt_k 9 (S' := (10, [some (.inr (.inl 30)), some (.inr (.inl 32)), some (.inl bits), some (.inl nr), some (.inl ((mi_shl 1 bits) - 1)), none, none], [.inl 0, .inr (.inl 32), .inr (.inl 30)], n, D, s, p, c)) rfl ?_
  refine tt_ildv (i := 0) (v := (c 32 (0 : Int).toNat)) rfl rfl (by omega) rfl ?_
  show tt Zi d 144 (11, [some (.inr (.inl 30)), some (.inr (.inl 32)), some (.inl bits), some (.inl nr), some (.inl ((mi_shl 1 bits) - 1)), none, none], [.inl (c 32 (0 : Int).toNat), .inr (.inl 30)], n, D, s, p, c) _
  have b2 : 0 ≤ (c 32 (0 : Int).toNat) ∧ (c 32 (0 : Int).toNat) ≤ 65535 := hC 32 _
  have K4 : ∀ (j3 : Int) , (1 ≤ j3 ∧ j3 ≤ 65535) → (True) → tt Zi d 144 (22, [some (.inr (.inl 30)), some (.inr (.inl 32)), some (.inl bits), some (.inl nr), some (.inl ((mi_shl 1 bits) - 1)), none, none], [.inl j3, .inr (.inl 30)], n, D, s, p, c) (fun R H => ∃ (s' : Nat → Int) (r : Int), R = .inl (some (.inl r)) ∧ H = (n, D, s', p, c) ∧ bS s' ∧ fr s s' [3017, 3018, 3019, 3020, 3021, 3022, 3023, 3024, 3025, 3026] ∧ (0 ≤ r ∧ r ≤ 1) ∧ (r = 1 → 0 ≤ nr ∧ nr ≤ 255)) := by
    intro j3 b6 hj5
    refine tt_k 7 (S' := (33, [some (.inr (.inl 30)), some (.inr (.inl 32)), some (.inl bits), some (.inl nr), some (.inl ((mi_shl 1 bits) - 1)), none, none], [.inl 4, .inr (.inl 32), .inr (.inl 30)], n, D, (us (us s 3017 j3) 3018 nr), p, c)) rfl ?_
    refine tt_ildv (i := 4) (v := (c 32 (4 : Int).toNat)) rfl rfl (by omega) rfl ?_
    show tt Zi d 144 (34, [some (.inr (.inl 30)), some (.inr (.inl 32)), some (.inl bits), some (.inl nr), some (.inl ((mi_shl 1 bits) - 1)), none, none], [.inl (c 32 (4 : Int).toNat), .inr (.inl 30)], n, D, (us (us s 3017 j3) 3018 nr), p, c) _
    have b7 : 0 ≤ (c 32 (4 : Int).toNat) ∧ (c 32 (4 : Int).toNat) ≤ 65535 := hC 32 _
    have K9 : ∀ (j8 : Int) , (1 ≤ j8 ∧ j8 ≤ 65535) → (True) → tt Zi d 144 (45, [some (.inr (.inl 30)), some (.inr (.inl 32)), some (.inl bits), some (.inl nr), some (.inl ((mi_shl 1 bits) - 1)), none, none], [.inl j8, .inr (.inl 30)], n, D, (us (us s 3017 j3) 3018 nr), p, c) (fun R H => ∃ (s' : Nat → Int) (r : Int), R = .inl (some (.inl r)) ∧ H = (n, D, s', p, c) ∧ bS s' ∧ fr s s' [3017, 3018, 3019, 3020, 3021, 3022, 3023, 3024, 3025, 3026] ∧ (0 ≤ r ∧ r ≤ 1) ∧ (r = 1 → 0 ≤ nr ∧ nr ≤ 255)) := by
      intro j8 b11 hj10
      refine tt_k 4 (S' := (55, [some (.inr (.inl 30)), some (.inr (.inl 32)), some (.inl bits), some (.inl nr), some (.inl ((mi_shl 1 bits) - 1)), none, none], [.inl 128, .inl j3], n, D, (us (us (us s 3017 j3) 3018 nr) 3022 j8), p, c)) rfl ?_
      refine tb_ge (x := j3) (y := 128) rfl rfl (by omega) (fun h12 => ?_) (fun h12 => ?_)
      · show tt Zi d 144 (133, [some (.inr (.inl 30)), some (.inr (.inl 32)), some (.inl bits), some (.inl nr), some (.inl ((mi_shl 1 bits) - 1)), none, none], [], n, D, (us (us (us s 3017 j3) 3018 nr) 3022 j8), p, c) _
        refine tt_k 3 (S' := (140, [some (.inr (.inl 30)), some (.inr (.inl 32)), some (.inl bits), some (.inl nr), some (.inl ((mi_shl 1 bits) - 1)), none, none], [.inl 4095, .inl j3], n, D, (us (us (us s 3017 j3) 3018 nr) 3022 j8), p, c)) rfl ?_
        refine tt_cl (by omega) rfl (k_less (Zi := Zi) (D := D) (s := (us (us (us s 3017 j3) 3018 nr) 3022 j8)) (p := p) (c := c) (by omega) (bS_us (bS_us (bS_us hS (show 0 ≤ j3 ∧ j3 ≤ 65535 by omega)) (show -2147483648 ≤ nr ∧ nr ≤ 2147483647 by omega)) (show 0 ≤ j8 ∧ j8 ≤ 65535 by omega)) hC j3 4095 (by omega) (by omega)) ?_
        rintro _ _ ⟨r13, rfl, rfl, b14, k15⟩
        show tt Zi d 144 (143, [some (.inr (.inl 30)), some (.inr (.inl 32)), some (.inl bits), some (.inl nr), some (.inl ((mi_shl 1 bits) - 1)), none, none], [.inl r13], n, D, (us (us (us s 3017 j3) 3018 nr) 3022 j8), p, c) _
        replace k15 : r13 = min j3 4095 := k15
        subst k15
        show tt Zi d 144 (143, [some (.inr (.inl 30)), some (.inr (.inl 32)), some (.inl bits), some (.inl nr), some (.inl ((mi_shl 1 bits) - 1)), none, none], [.inl (min j3 4095)], n, D, (us (us (us s 3017 j3) 3018 nr) 3022 j8), p, c) _
        refine tt_k 3 (S' := (150, [some (.inr (.inl 30)), some (.inr (.inl 32)), some (.inl bits), some (.inl nr), some (.inl ((mi_shl 1 bits) - 1)), none, none], [.inl 256, .inl ((min j3 4095) + 128)], n, D, (us (us (us s 3017 j3) 3018 nr) 3022 j8), p, c)) rfl ?_
        refine tt_div (x := ((min j3 4095) + 128)) (y := 256) rfl (by omega) ?_
        show tt Zi d 144 (151, [some (.inr (.inl 30)), some (.inr (.inl 32)), some (.inl bits), some (.inl nr), some (.inl ((mi_shl 1 bits) - 1)), none, none], [.inl ((Int.tdiv ((min j3 4095) + 128) 256))], n, D, (us (us (us s 3017 j3) 3018 nr) 3022 j8), p, c) _
        have b16 := tdv_bd (x := ((min j3 4095) + 128)) (y := 256) (a := 2147483775) (by omega) (by omega) (by omega)
        refine tt_k 10 (S' := (165, [some (.inr (.inl 30)), some (.inr (.inl 32)), some (.inl bits), some (.inl nr), some (.inl ((mi_shl 1 bits) - 1)), some (.inl ((Int.tdiv ((min j3 4095) + 128) 256))), none], [.inl ((((Int.tdiv ((min j3 4095) + 128) 256) + 2) + (3 * nr))), .inr (.inl 30)], n, D, (us (us (us s 3017 j3) 3018 nr) 3022 j8), p, c)) rfl ?_
        refine tt_wm (x := (((Int.tdiv ((min j3 4095) + 128) 256) + 2) + (3 * nr))) ?_
        intro v17 b18 w19
        show tt Zi d 144 (165, [some (.inr (.inl 30)), some (.inr (.inl 32)), some (.inl bits), some (.inl nr), some (.inl ((mi_shl 1 bits) - 1)), some (.inl ((Int.tdiv ((min j3 4095) + 128) 256))), none], [.inl v17, .inr (.inl 30)], n, D, (us (us (us s 3017 j3) 3018 nr) 3022 j8), p, c) _
        refine tt_k 12 (S' := (182, [some (.inr (.inl 30)), some (.inr (.inl 32)), some (.inl bits), some (.inl nr), some (.inl ((mi_shl 1 bits) - 1)), some (.inl ((Int.tdiv ((min j3 4095) + 128) 256))), none], [.inl ((((4 * (Int.tdiv ((min j3 4095) + 128) 256)) + 3) + (5 * nr))), .inr (.inl 30)], n, D, (us (us (us (us s 3017 j3) 3018 nr) 3022 j8) 3019 v17), p, c)) rfl ?_
        refine tt_wm (x := (((4 * (Int.tdiv ((min j3 4095) + 128) 256)) + 3) + (5 * nr))) ?_
        intro v20 b21 w22
        show tt Zi d 144 (182, [some (.inr (.inl 30)), some (.inr (.inl 32)), some (.inl bits), some (.inl nr), some (.inl ((mi_shl 1 bits) - 1)), some (.inl ((Int.tdiv ((min j3 4095) + 128) 256))), none], [.inl v20, .inr (.inl 30)], n, D, (us (us (us (us s 3017 j3) 3018 nr) 3022 j8) 3019 v17), p, c) _
        refine tt_k 12 (S' := (201, [some (.inr (.inl 30)), some (.inr (.inl 32)), some (.inl bits), some (.inl nr), some (.inl ((mi_shl 1 bits) - 1)), some (.inl ((Int.tdiv ((min j3 4095) + 128) 256))), none], [.inl ((((17 * (Int.tdiv ((min j3 4095) + 128) 256)) + 4) + (7 * nr))), .inr (.inl 30)], n, D, (us (us (us (us (us s 3017 j3) 3018 nr) 3022 j8) 3019 v17) 3020 v20), p, c)) rfl ?_
        refine tt_wm (x := (((17 * (Int.tdiv ((min j3 4095) + 128) 256)) + 4) + (7 * nr))) ?_
        intro v23 b24 w25
        show tt Zi d 144 (201, [some (.inr (.inl 30)), some (.inr (.inl 32)), some (.inl bits), some (.inl nr), some (.inl ((mi_shl 1 bits) - 1)), some (.inl ((Int.tdiv ((min j3 4095) + 128) 256))), none], [.inl v23, .inr (.inl 30)], n, D, (us (us (us (us (us s 3017 j3) 3018 nr) 3022 j8) 3019 v17) 3020 v20), p, c) _
        refine tt_k 1 (S' := (204, [some (.inr (.inl 30)), some (.inr (.inl 32)), some (.inl bits), some (.inl nr), some (.inl ((mi_shl 1 bits) - 1)), some (.inl ((Int.tdiv ((min j3 4095) + 128) 256))), none], [], n, D, (us (us (us (us (us (us s 3017 j3) 3018 nr) 3022 j8) 3019 v17) 3020 v20) 3021 v23), p, c)) rfl ?_
        refine tt_mono (x_measDP (Zi := Zi) (D := D) (s := (us (us (us (us (us (us s 3017 j3) 3018 nr) 3022 j8) 3019 v17) 3020 v20) 3021 v23)) (p := p) (c := c) (by omega) (bS_us (bS_us (bS_us (bS_us (bS_us (bS_us hS (show 0 ≤ j3 ∧ j3 ≤ 65535 by omega)) (show -2147483648 ≤ nr ∧ nr ≤ 2147483647 by omega)) (show 0 ≤ j8 ∧ j8 ≤ 65535 by omega)) (show -2147483648 ≤ v17 ∧ v17 ≤ 2147483647 by omega)) (show -2147483648 ≤ v20 ∧ v20 ≤ 2147483647 by omega)) (show -2147483648 ≤ v23 ∧ v23 ≤ 2147483647 by omega)) hC bits nr ((mi_shl 1 bits) - 1) ((Int.tdiv ((min j3 4095) + 128) 256)) (by omega) (by omega) (by omega) (show nr = nr by omega)) ?_
        rintro _ _ ⟨s26, r27, rfl, rfl, hS26, f28, b29, k30⟩
        exact ⟨s26, r27, rfl, rfl, hS26, (fr_tr (fr_us (by decide) (fr_us (by decide) (fr_us (by decide) (fr_us (by decide) (fr_us (by decide) (fr_us (by decide) fr_rf)))))) f28 (by decide)), by omega, k30⟩
      · show tt Zi d 144 (58, [some (.inr (.inl 30)), some (.inr (.inl 32)), some (.inl bits), some (.inl nr), some (.inl ((mi_shl 1 bits) - 1)), none, none], [], n, D, (us (us (us s 3017 j3) 3018 nr) 3022 j8), p, c) _
        refine tt_k 5 (S' := (67, [some (.inr (.inl 30)), some (.inr (.inl 32)), some (.inl bits), some (.inl nr), some (.inl ((mi_shl 1 bits) - 1)), none, none], [.inl (j3 + 1), .inl 256], n, D, (us (us (us s 3017 j3) 3018 nr) 3022 j8), p, c)) rfl ?_
        refine tt_dvp (x := 256) (y := (j3 + 1)) rfl (by omega) ?_
        show tt Zi d 144 (68, [some (.inr (.inl 30)), some (.inr (.inl 32)), some (.inl bits), some (.inl nr), some (.inl ((mi_shl 1 bits) - 1)), none, none], [.inl (256 / (j3 + 1))], n, D, (us (us (us s 3017 j3) 3018 nr) 3022 j8), p, c) _
        have b31 : 0 ≤ (256 / (j3 + 1)) ∧ (256 / (j3 + 1)) ≤ 256 := td_le (by omega) (by omega)
        have b32 : 1 ≤ (256 / (j3 + 1)) := dv_ge1 (by omega) (by omega)
        refine tt_k 5 (S' := (75, [some (.inr (.inl 30)), some (.inr (.inl 32)), some (.inl bits), some (.inl nr), some (.inl ((mi_shl 1 bits) - 1)), some (.inl (256 / (j3 + 1))), none], [.inl (256 / (j3 + 1)), .inl 3, .inl 2, .inr (.inl 30)], n, D, (us (us (us s 3017 j3) 3018 nr) 3022 j8), p, c)) rfl ?_
        refine tt_dvp (x := 3) (y := (256 / (j3 + 1))) rfl (by omega) ?_
        show tt Zi d 144 (76, [some (.inr (.inl 30)), some (.inr (.inl 32)), some (.inl bits), some (.inl nr), some (.inl ((mi_shl 1 bits) - 1)), some (.inl (256 / (j3 + 1))), none], [.inl ((3 / (256 / (j3 + 1)))), .inl 2, .inr (.inl 30)], n, D, (us (us (us s 3017 j3) 3018 nr) 3022 j8), p, c) _
        have b33 : 0 ≤ (3 / (256 / (j3 + 1))) ∧ (3 / (256 / (j3 + 1))) ≤ 3 := td_le (by omega) (by omega)
        refine tt_k 5 (S' := (83, [some (.inr (.inl 30)), some (.inr (.inl 32)), some (.inl bits), some (.inl nr), some (.inl ((mi_shl 1 bits) - 1)), some (.inl (256 / (j3 + 1))), none], [.inl (((3 / (256 / (j3 + 1))) + (3 * nr))), .inl 2, .inr (.inl 30)], n, D, (us (us (us s 3017 j3) 3018 nr) 3022 j8), p, c)) rfl ?_
        refine tt_wm (x := ((3 / (256 / (j3 + 1))) + (3 * nr))) ?_
        intro v34 b35 w36
        show tt Zi d 144 (83, [some (.inr (.inl 30)), some (.inr (.inl 32)), some (.inl bits), some (.inl nr), some (.inl ((mi_shl 1 bits) - 1)), some (.inl (256 / (j3 + 1))), none], [.inl v34, .inl 2, .inr (.inl 30)], n, D, (us (us (us s 3017 j3) 3018 nr) 3022 j8), p, c) _
        refine tt_cl (by omega) rfl (k_more (Zi := Zi) (D := D) (s := (us (us (us s 3017 j3) 3018 nr) 3022 j8)) (p := p) (c := c) (by omega) (bS_us (bS_us (bS_us hS (show 0 ≤ j3 ∧ j3 ≤ 65535 by omega)) (show -2147483648 ≤ nr ∧ nr ≤ 2147483647 by omega)) (show 0 ≤ j8 ∧ j8 ≤ 65535 by omega)) hC 2 v34 (by omega) (by omega)) ?_
        rintro _ _ ⟨r37, rfl, rfl, b38, k39⟩
        show tt Zi d 144 (86, [some (.inr (.inl 30)), some (.inr (.inl 32)), some (.inl bits), some (.inl nr), some (.inl ((mi_shl 1 bits) - 1)), some (.inl (256 / (j3 + 1))), none], [.inl r37, .inr (.inl 30)], n, D, (us (us (us s 3017 j3) 3018 nr) 3022 j8), p, c) _
        replace k39 : r37 = max 2 v34 := k39
        subst k39
        show tt Zi d 144 (86, [some (.inr (.inl 30)), some (.inr (.inl 32)), some (.inl bits), some (.inl nr), some (.inl ((mi_shl 1 bits) - 1)), some (.inl (256 / (j3 + 1))), none], [.inl (max 2 v34), .inr (.inl 30)], n, D, (us (us (us s 3017 j3) 3018 nr) 3022 j8), p, c) _
        refine tt_k 5 (S' := (95, [some (.inr (.inl 30)), some (.inr (.inl 32)), some (.inl bits), some (.inl nr), some (.inl ((mi_shl 1 bits) - 1)), some (.inl (256 / (j3 + 1))), none], [.inl (256 / (j3 + 1)), .inl 7, .inl 3, .inr (.inl 30)], n, D, (us (us (us (us s 3017 j3) 3018 nr) 3022 j8) 3019 (max 2 v34)), p, c)) rfl ?_
        refine tt_dvp (x := 7) (y := (256 / (j3 + 1))) rfl (by omega) ?_
        show tt Zi d 144 (96, [some (.inr (.inl 30)), some (.inr (.inl 32)), some (.inl bits), some (.inl nr), some (.inl ((mi_shl 1 bits) - 1)), some (.inl (256 / (j3 + 1))), none], [.inl ((7 / (256 / (j3 + 1)))), .inl 3, .inr (.inl 30)], n, D, (us (us (us (us s 3017 j3) 3018 nr) 3022 j8) 3019 (max 2 v34)), p, c) _
        have b40 : 0 ≤ (7 / (256 / (j3 + 1))) ∧ (7 / (256 / (j3 + 1))) ≤ 7 := td_le (by omega) (by omega)
        refine tt_k 5 (S' := (103, [some (.inr (.inl 30)), some (.inr (.inl 32)), some (.inl bits), some (.inl nr), some (.inl ((mi_shl 1 bits) - 1)), some (.inl (256 / (j3 + 1))), none], [.inl (((7 / (256 / (j3 + 1))) + (5 * nr))), .inl 3, .inr (.inl 30)], n, D, (us (us (us (us s 3017 j3) 3018 nr) 3022 j8) 3019 (max 2 v34)), p, c)) rfl ?_
        refine tt_wm (x := ((7 / (256 / (j3 + 1))) + (5 * nr))) ?_
        intro v41 b42 w43
        show tt Zi d 144 (103, [some (.inr (.inl 30)), some (.inr (.inl 32)), some (.inl bits), some (.inl nr), some (.inl ((mi_shl 1 bits) - 1)), some (.inl (256 / (j3 + 1))), none], [.inl v41, .inl 3, .inr (.inl 30)], n, D, (us (us (us (us s 3017 j3) 3018 nr) 3022 j8) 3019 (max 2 v34)), p, c) _
        refine tt_cl (by omega) rfl (k_more (Zi := Zi) (D := D) (s := (us (us (us (us s 3017 j3) 3018 nr) 3022 j8) 3019 (max 2 v34))) (p := p) (c := c) (by omega) (bS_us (bS_us (bS_us (bS_us hS (show 0 ≤ j3 ∧ j3 ≤ 65535 by omega)) (show -2147483648 ≤ nr ∧ nr ≤ 2147483647 by omega)) (show 0 ≤ j8 ∧ j8 ≤ 65535 by omega)) (show -2147483648 ≤ (max 2 v34) ∧ (max 2 v34) ≤ 2147483647 by omega)) hC 3 v41 (by omega) (by omega)) ?_
        rintro _ _ ⟨r44, rfl, rfl, b45, k46⟩
        show tt Zi d 144 (106, [some (.inr (.inl 30)), some (.inr (.inl 32)), some (.inl bits), some (.inl nr), some (.inl ((mi_shl 1 bits) - 1)), some (.inl (256 / (j3 + 1))), none], [.inl r44, .inr (.inl 30)], n, D, (us (us (us (us s 3017 j3) 3018 nr) 3022 j8) 3019 (max 2 v34)), p, c) _
        replace k46 : r44 = max 3 v41 := k46
        subst k46
        show tt Zi d 144 (106, [some (.inr (.inl 30)), some (.inr (.inl 32)), some (.inl bits), some (.inl nr), some (.inl ((mi_shl 1 bits) - 1)), some (.inl (256 / (j3 + 1))), none], [.inl (max 3 v41), .inr (.inl 30)], n, D, (us (us (us (us s 3017 j3) 3018 nr) 3022 j8) 3019 (max 2 v34)), p, c) _
        refine tt_k 5 (S' := (115, [some (.inr (.inl 30)), some (.inr (.inl 32)), some (.inl bits), some (.inl nr), some (.inl ((mi_shl 1 bits) - 1)), some (.inl (256 / (j3 + 1))), none], [.inl (256 / (j3 + 1)), .inl 21, .inl 4, .inr (.inl 30)], n, D, (us (us (us (us (us s 3017 j3) 3018 nr) 3022 j8) 3019 (max 2 v34)) 3020 (max 3 v41)), p, c)) rfl ?_
        refine tt_dvp (x := 21) (y := (256 / (j3 + 1))) rfl (by omega) ?_
        show tt Zi d 144 (116, [some (.inr (.inl 30)), some (.inr (.inl 32)), some (.inl bits), some (.inl nr), some (.inl ((mi_shl 1 bits) - 1)), some (.inl (256 / (j3 + 1))), none], [.inl ((21 / (256 / (j3 + 1)))), .inl 4, .inr (.inl 30)], n, D, (us (us (us (us (us s 3017 j3) 3018 nr) 3022 j8) 3019 (max 2 v34)) 3020 (max 3 v41)), p, c) _
        have b47 : 0 ≤ (21 / (256 / (j3 + 1))) ∧ (21 / (256 / (j3 + 1))) ≤ 21 := td_le (by omega) (by omega)
        refine tt_k 5 (S' := (124, [some (.inr (.inl 30)), some (.inr (.inl 32)), some (.inl bits), some (.inl nr), some (.inl ((mi_shl 1 bits) - 1)), some (.inl (256 / (j3 + 1))), none], [.inl (((21 / (256 / (j3 + 1))) + (7 * nr))), .inl 4, .inr (.inl 30)], n, D, (us (us (us (us (us s 3017 j3) 3018 nr) 3022 j8) 3019 (max 2 v34)) 3020 (max 3 v41)), p, c)) rfl ?_
        refine tt_wm (x := ((21 / (256 / (j3 + 1))) + (7 * nr))) ?_
        intro v48 b49 w50
        show tt Zi d 144 (124, [some (.inr (.inl 30)), some (.inr (.inl 32)), some (.inl bits), some (.inl nr), some (.inl ((mi_shl 1 bits) - 1)), some (.inl (256 / (j3 + 1))), none], [.inl v48, .inl 4, .inr (.inl 30)], n, D, (us (us (us (us (us s 3017 j3) 3018 nr) 3022 j8) 3019 (max 2 v34)) 3020 (max 3 v41)), p, c) _
        refine tt_cl (by omega) rfl (k_more (Zi := Zi) (D := D) (s := (us (us (us (us (us s 3017 j3) 3018 nr) 3022 j8) 3019 (max 2 v34)) 3020 (max 3 v41))) (p := p) (c := c) (by omega) (bS_us (bS_us (bS_us (bS_us (bS_us hS (show 0 ≤ j3 ∧ j3 ≤ 65535 by omega)) (show -2147483648 ≤ nr ∧ nr ≤ 2147483647 by omega)) (show 0 ≤ j8 ∧ j8 ≤ 65535 by omega)) (show -2147483648 ≤ (max 2 v34) ∧ (max 2 v34) ≤ 2147483647 by omega)) (show -2147483648 ≤ (max 3 v41) ∧ (max 3 v41) ≤ 2147483647 by omega)) hC 4 v48 (by omega) (by omega)) ?_
        rintro _ _ ⟨r51, rfl, rfl, b52, k53⟩
        show tt Zi d 144 (127, [some (.inr (.inl 30)), some (.inr (.inl 32)), some (.inl bits), some (.inl nr), some (.inl ((mi_shl 1 bits) - 1)), some (.inl (256 / (j3 + 1))), none], [.inl r51, .inr (.inl 30)], n, D, (us (us (us (us (us s 3017 j3) 3018 nr) 3022 j8) 3019 (max 2 v34)) 3020 (max 3 v41)), p, c) _
        replace k53 : r51 = max 4 v48 := k53
        subst k53
        show tt Zi d 144 (127, [some (.inr (.inl 30)), some (.inr (.inl 32)), some (.inl bits), some (.inl nr), some (.inl ((mi_shl 1 bits) - 1)), some (.inl (256 / (j3 + 1))), none], [.inl (max 4 v48), .inr (.inl 30)], n, D, (us (us (us (us (us s 3017 j3) 3018 nr) 3022 j8) 3019 (max 2 v34)) 3020 (max 3 v41)), p, c) _
        refine tt_k 2 (S' := (204, [some (.inr (.inl 30)), some (.inr (.inl 32)), some (.inl bits), some (.inl nr), some (.inl ((mi_shl 1 bits) - 1)), some (.inl (256 / (j3 + 1))), none], [], n, D, (us (us (us (us (us (us s 3017 j3) 3018 nr) 3022 j8) 3019 (max 2 v34)) 3020 (max 3 v41)) 3021 (max 4 v48)), p, c)) rfl ?_
        refine tt_mono (x_measDP (Zi := Zi) (D := D) (s := (us (us (us (us (us (us s 3017 j3) 3018 nr) 3022 j8) 3019 (max 2 v34)) 3020 (max 3 v41)) 3021 (max 4 v48))) (p := p) (c := c) (by omega) (bS_us (bS_us (bS_us (bS_us (bS_us (bS_us hS (show 0 ≤ j3 ∧ j3 ≤ 65535 by omega)) (show -2147483648 ≤ nr ∧ nr ≤ 2147483647 by omega)) (show 0 ≤ j8 ∧ j8 ≤ 65535 by omega)) (show -2147483648 ≤ (max 2 v34) ∧ (max 2 v34) ≤ 2147483647 by omega)) (show -2147483648 ≤ (max 3 v41) ∧ (max 3 v41) ≤ 2147483647 by omega)) (show -2147483648 ≤ (max 4 v48) ∧ (max 4 v48) ≤ 2147483647 by omega)) hC bits nr ((mi_shl 1 bits) - 1) (256 / (j3 + 1)) (by omega) (by omega) (by omega) (show nr = nr by omega)) ?_
        rintro _ _ ⟨s54, r55, rfl, rfl, hS54, f56, b57, k58⟩
        exact ⟨s54, r55, rfl, rfl, hS54, (fr_tr (fr_us (by decide) (fr_us (by decide) (fr_us (by decide) (fr_us (by decide) (fr_us (by decide) (fr_us (by decide) fr_rf)))))) f56 (by decide)), by omega, k58⟩
    refine tz_ne (x := (c 32 (4 : Int).toNat)) rfl rfl (by omega) (fun h59 => ?_) (fun h59 => ?_)
    · show tt Zi d 144 (42, [some (.inr (.inl 30)), some (.inr (.inl 32)), some (.inl bits), some (.inl nr), some (.inl ((mi_shl 1 bits) - 1)), none, none], [.inr (.inl 30)], n, D, (us (us s 3017 j3) 3018 nr), p, c) _
      refine tt_k 2 (S' := (44, [some (.inr (.inl 30)), some (.inr (.inl 32)), some (.inl bits), some (.inl nr), some (.inl ((mi_shl 1 bits) - 1)), none, none], [.inl 4, .inr (.inl 32), .inr (.inl 30)], n, D, (us (us s 3017 j3) 3018 nr), p, c)) rfl ?_
      refine tt_ildv (i := 4) (v := (c 32 (4 : Int).toNat)) rfl rfl (by omega) rfl ?_
      show tt Zi d 144 (45, [some (.inr (.inl 30)), some (.inr (.inl 32)), some (.inl bits), some (.inl nr), some (.inl ((mi_shl 1 bits) - 1)), none, none], [.inl (c 32 (4 : Int).toNat), .inr (.inl 30)], n, D, (us (us s 3017 j3) 3018 nr), p, c) _
      exact K9 (c 32 (4 : Int).toNat)  (by omega) (trivial)
    · show tt Zi d 144 (37, [some (.inr (.inl 30)), some (.inr (.inl 32)), some (.inl bits), some (.inl nr), some (.inl ((mi_shl 1 bits) - 1)), none, none], [.inr (.inl 30)], n, D, (us (us s 3017 j3) 3018 nr), p, c) _
      refine tt_k 2 (S' := (45, [some (.inr (.inl 30)), some (.inr (.inl 32)), some (.inl bits), some (.inl nr), some (.inl ((mi_shl 1 bits) - 1)), none, none], [.inl 64, .inr (.inl 30)], n, D, (us (us s 3017 j3) 3018 nr), p, c)) rfl ?_
      exact K9 64  (by omega) (trivial)
  refine tz_ne (x := (c 32 (0 : Int).toNat)) rfl rfl (by omega) (fun h60 => ?_) (fun h60 => ?_)
  · show tt Zi d 144 (19, [some (.inr (.inl 30)), some (.inr (.inl 32)), some (.inl bits), some (.inl nr), some (.inl ((mi_shl 1 bits) - 1)), none, none], [.inr (.inl 30)], n, D, s, p, c) _
    refine tt_k 2 (S' := (21, [some (.inr (.inl 30)), some (.inr (.inl 32)), some (.inl bits), some (.inl nr), some (.inl ((mi_shl 1 bits) - 1)), none, none], [.inl 0, .inr (.inl 32), .inr (.inl 30)], n, D, s, p, c)) rfl ?_
    refine tt_ildv (i := 0) (v := (c 32 (0 : Int).toNat)) rfl rfl (by omega) rfl ?_
    show tt Zi d 144 (22, [some (.inr (.inl 30)), some (.inr (.inl 32)), some (.inl bits), some (.inl nr), some (.inl ((mi_shl 1 bits) - 1)), none, none], [.inl (c 32 (0 : Int).toNat), .inr (.inl 30)], n, D, s, p, c) _
    exact K4 (c 32 (0 : Int).toNat)  (by omega) (trivial)
  · show tt Zi d 144 (14, [some (.inr (.inl 30)), some (.inr (.inl 32)), some (.inl bits), some (.inl nr), some (.inl ((mi_shl 1 bits) - 1)), none, none], [.inr (.inl 30)], n, D, s, p, c) _
    refine tt_k 2 (S' := (22, [some (.inr (.inl 30)), some (.inr (.inl 32)), some (.inl bits), some (.inl nr), some (.inl ((mi_shl 1 bits) - 1)), none, none], [.inl ((mi_shl 1 bits) - 1), .inr (.inl 30)], n, D, s, p, c)) rfl ?_
    exact K4 ((mi_shl 1 bits) - 1)  (by omega) (trivial)
set_option maxRecDepth 100000 in
set_option maxHeartbeats 4000000 in
theorem x_measP {Zi : Nat → Option (Nat × (Nat → Int))} {d n : Nat} {D : Nat → Nat × Nat} {s : Nat → Int} {p : Nat → Nat} {c : Nat → Nat → Int} (hd : 2 ≤ d) (hS : bS s) (hC : bC D c) (bits : Int) (nr : Int) (b_bits : 2 ≤ bits ∧ bits ≤ 16) (b_nr : -2147483648 ≤ nr ∧ nr ≤ 2147483647) : tt Zi d 144 (0, [some (.inr (.inl 30)), some (.inr (.inl 32)), some (.inl bits), some (.inl nr), none, none, none], [], n, D, s, p, c) (fun R H => ∃ (s' : Nat → Int) (r : Int), R = .inl (some (.inl r)) ∧ H = (n, D, s', p, c) ∧ bS s' ∧ fr s s' [3017, 3018, 3019, 3020, 3021, 3022, 3023, 3024, 3025, 3026] ∧ (0 ≤ r ∧ r ≤ 1) ∧ ((r = 1 ∧ VM (c 32 0) (c 32 1) (c 32 2) (c 32 3) (c 32 4) bits nr ∧ zq (ZM (c 32 0) (c 32 1) (c 32 2) (c 32 3) (c 32 4) bits nr) (s' 3017) (s' 3018) (s' 3019) (s' 3020) (s' 3021) (s' 3022) (s' 3023) (s' 3024) (s' 3025) (s' 3026)) ∨ (r = 0 ∧ ¬ VM (c 32 0) (c 32 1) (c 32 2) (c 32 3) (c 32 4) bits nr))) := by
  by_cases hn : 0 ≤ nr ∧ nr ≤ 255
  · exact x_measAP hd hS hC bits nr b_bits hn
  · refine tt_mono (x_measBP (Zi := Zi) (D := D) (s := s) (p := p) (c := c) hd hS hC bits nr b_bits b_nr) ?_
    rintro _ _ ⟨s1, r, rfl, rfl, hS1, f, b, k⟩
    exact ⟨s1, r, rfl, rfl, hS1, f, b, Or.inr ⟨by omega, fun h => hn h.2.1⟩⟩

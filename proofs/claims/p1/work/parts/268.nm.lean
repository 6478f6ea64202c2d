-- gM_rows
set_option maxHeartbeats 4000000 in
theorem nM_rows {a1 : Int32} {S : MS} (mS : MI S)  : nJ (NW [0] S (fun (r : Int32) (S' : MS) => True)) (gM_rows a1 S) := by
  unfold gM_rows
  have FS := fM_rf [0] S
  have L1_ : (0 : Int32).toInt = 0 := rfl
  have L2_ : (1 : Int32).toInt = 1 := rfl
  refine n_sI mS FS (by first | decide | exact hE _ (by decide) | simp) rfl (i_lo _) (i_hi _) (fun S3_ mS3_ FS3_ vS3_ gS3_ hS3_ => ?_)
  have q4_ := congrArg Int32.toInt (gS3_ 22 (by decide))
  have r5_ := mi_f mS3_ 22 rfl
  refine n_let ?_
  have j6_ := Int32.toInt_toInt64 (a1)
  have L7_ : (0 : Int64).toInt = 0 := rfl
  try have i8_ : ((S3_.1 22) - (1 : Int32)).toInt = (S3_.1 22).toInt - (1 : Int32).toInt := i_sub (by omega) (by omega)
  have j9_ := Int32.toInt_toInt64 (((S3_.1 22) - (1 : Int32)))
  refine n_cP (nM_in  mS3_ ) (fun x310_ qx310_ => ?_)
  refine n_eq (fun c11_ => ?_) (fun c11_ => ?_)
  · skip
    exact n_rW mS3_ FS3_ trivial
  · skip
    refine n_rI (L := 4) mS3_ (by decide) rfl (by omega) (by omega) (fun x512_ x512_e x512_l x512_u => ?_)
    exact n_rW mS3_ FS3_ trivial

-- gM_told
set_option maxHeartbeats 4000000 in
theorem nM_told {a1 : Int32} {a2 : Int32} {S : MS} (mS : MI S)  : nJ (NW [0] S (fun (r : Int64) (S' : MS) => True)) (gM_told a1 a2 S) := by
  unfold gM_told
  have FS := fM_rf [0] S
  have L1_ : (0 : Int32).toInt = 0 := rfl
  have L2_ : (1 : Int32).toInt = 1 := rfl
  refine n_sI mS FS (by first | decide | exact hE _ (by decide) | simp) rfl (i_lo _) (i_hi _) (fun S3_ mS3_ FS3_ vS3_ gS3_ hS3_ => ?_)
  refine n_cP (nM_instance  mS3_ ) (fun x24_ qx24_ => ?_)
  refine n_le (fun c5_ => ?_) (fun c5_ => ?_)
  · skip
    refine n_rI (L := 40) mS3_ (by decide) rfl (by omega) (by omega) (fun x46_ x46_e x46_l x46_u => ?_)
    have L7_ : (4 : Int32).toInt = 4 := rfl
    refine n_eq (fun c8_ => ?_) (fun c8_ => ?_)
    · skip
      refine n_rI (L := 640) mS3_ (by decide) rfl (by omega) (by omega) (fun x99_ x99_e x99_l x99_u => ?_)
      exact n_rW mS3_ FS3_ trivial
    · skip
      refine n_rI (L := 40) mS3_ (by decide) rfl (by omega) (by omega) (fun x510_ x510_e x510_l x510_u => ?_)
      have q11_ : x510_.toInt = x46_.toInt := by rw [x510_e, x46_e]
      have L12_ : (6 : Int32).toInt = 6 := rfl
      refine n_eq (fun c13_ => ?_) (fun c13_ => ?_)
      · skip
        refine n_rI (L := 640) mS3_ (by decide) rfl (by omega) (by omega) (fun x814_ x814_e x814_l x814_u => ?_)
        exact n_rW mS3_ FS3_ trivial
      · skip
        refine n_cP (nM_numberOf  mS3_ (by first | omega | assumption) (by first | omega | assumption) (by first | omega | assumption) (by first | omega | assumption)) (fun x615_ qx615_ => ?_)
        exact n_rW mS3_ FS3_ trivial
  · skip
    exact n_rW mS3_ FS3_ trivial

-- gM_part
set_option maxHeartbeats 4000000 in
theorem nM_part {a1 : Int32} {a2 : Int32} {a3 : Int32} {S : MS} (mS : MI S)  : nJ (NW [0] S (fun (r : Int64) (S' : MS) => True)) (gM_part a1 a2 a3 S) := by
  unfold gM_part
  have FS := fM_rf [0] S
  have L1_ : (0 : Int32).toInt = 0 := rfl
  have L2_ : (1 : Int32).toInt = 1 := rfl
  refine n_sI mS FS (by first | decide | exact hE _ (by decide) | simp) rfl (i_lo _) (i_hi _) (fun S3_ mS3_ FS3_ vS3_ gS3_ hS3_ => ?_)
  refine n_cP (nM_instance  mS3_ ) (fun x24_ qx24_ => ?_)
  refine n_lt (fun c5_ => ?_) (fun c5_ => ?_)
  · skip
    exact n_rW mS3_ FS3_ trivial
  · skip
    refine n_rI (L := 40) mS3_ (by decide) rfl (by omega) (by omega) (fun x46_ x46_e x46_l x46_u => ?_)
    have L7_ : (4 : Int32).toInt = 4 := rfl
    refine n_eq (fun c8_ => ?_) (fun c8_ => ?_)
    · skip
      unfold gM_part_43
      refine n_rI (L := 40) mS3_ (by decide) rfl (by omega) (by omega) (fun x19_ x19_e x19_l x19_u => ?_)
      have q10_ : x19_.toInt = x46_.toInt := by rw [x19_e, x46_e]
      refine n_eq (fun c11_ => ?_) (fun c11_ => ?_)
      · skip
        refine n_rI (L := 640) mS3_ (by decide) rfl (by omega) (by omega) (fun x612_ x612_e x612_l x612_u => ?_)
        have j13_ := Int32.toInt_toInt64 (a3)
        have L14_ : (0 : Int64).toInt = 0 := rfl
        try have i15_ : (x612_ - (1 : Int32)).toInt = x612_.toInt - (1 : Int32).toInt := i_sub (by omega) (by omega)
        have j16_ := Int32.toInt_toInt64 ((x612_ - (1 : Int32)))
        refine n_cP (nM_in  mS3_ ) (fun x717_ qx717_ => ?_)
        refine n_eq (fun c18_ => ?_) (fun c18_ => ?_)
        · skip
          exact n_rW mS3_ FS3_ trivial
        · skip
          have L19_ : (40 : Int32).toInt = 40 := rfl
          try have i20_ : ((40 : Int32) * x24_).toInt = 40 * x24_.toInt := i_mul (n := 40) rfl (by omega) (by omega)
          try have i21_ : (((40 : Int32) * x24_) + a3).toInt = ((40 : Int32) * x24_).toInt + a3.toInt := i_add (by omega) (by omega)
          refine n_rI (L := 25600) mS3_ (by decide) rfl (by omega) (by omega) (fun x922_ x922_e x922_l x922_u => ?_)
          exact n_rW mS3_ FS3_ trivial
      · skip
        refine n_rI (L := 640) mS3_ (by decide) rfl (by omega) (by omega) (fun x223_ x223_e x223_l x223_u => ?_)
        have j24_ := Int32.toInt_toInt64 (a3)
        have L25_ : (0 : Int64).toInt = 0 := rfl
        try have i26_ : (x223_ - (1 : Int32)).toInt = x223_.toInt - (1 : Int32).toInt := i_sub (by omega) (by omega)
        have j27_ := Int32.toInt_toInt64 ((x223_ - (1 : Int32)))
        refine n_cP (nM_in  mS3_ ) (fun x328_ qx328_ => ?_)
        refine n_eq (fun c29_ => ?_) (fun c29_ => ?_)
        · skip
          exact n_rW mS3_ FS3_ trivial
        · skip
          have L30_ : (16 : Int32).toInt = 16 := rfl
          try have i31_ : ((16 : Int32) * x24_).toInt = 16 * x24_.toInt := i_mul (n := 16) rfl (by omega) (by omega)
          try have i32_ : (((16 : Int32) * x24_) + a3).toInt = ((16 : Int32) * x24_).toInt + a3.toInt := i_add (by omega) (by omega)
          refine n_rJ (L := 10240) (by decide) (by omega) (by omega) (fun x533_ x533_e => ?_)
          exact n_rW mS3_ FS3_ trivial
    · skip
      refine n_rI (L := 40) mS3_ (by decide) rfl (by omega) (by omega) (fun x534_ x534_e x534_l x534_u => ?_)
      have q35_ : x534_.toInt = x46_.toInt := by rw [x534_e, x46_e]
      have L36_ : (6 : Int32).toInt = 6 := rfl
      refine n_eq (fun c37_ => ?_) (fun c37_ => ?_)
      · skip
        unfold gM_part_43
        refine n_rI (L := 40) mS3_ (by decide) rfl (by omega) (by omega) (fun x138_ x138_e x138_l x138_u => ?_)
        have q39_ : x138_.toInt = x46_.toInt := by rw [x138_e, x46_e]
        refine n_eq (fun c40_ => ?_) (fun c40_ => ?_)
        · skip
          refine n_rI (L := 640) mS3_ (by decide) rfl (by omega) (by omega) (fun x641_ x641_e x641_l x641_u => ?_)
          have j42_ := Int32.toInt_toInt64 (a3)
          have L43_ : (0 : Int64).toInt = 0 := rfl
          try have i44_ : (x641_ - (1 : Int32)).toInt = x641_.toInt - (1 : Int32).toInt := i_sub (by omega) (by omega)
          have j45_ := Int32.toInt_toInt64 ((x641_ - (1 : Int32)))
          refine n_cP (nM_in  mS3_ ) (fun x746_ qx746_ => ?_)
          refine n_eq (fun c47_ => ?_) (fun c47_ => ?_)
          · skip
            exact n_rW mS3_ FS3_ trivial
          · skip
            have L48_ : (40 : Int32).toInt = 40 := rfl
            try have i49_ : ((40 : Int32) * x24_).toInt = 40 * x24_.toInt := i_mul (n := 40) rfl (by omega) (by omega)
            try have i50_ : (((40 : Int32) * x24_) + a3).toInt = ((40 : Int32) * x24_).toInt + a3.toInt := i_add (by omega) (by omega)
            refine n_rI (L := 25600) mS3_ (by decide) rfl (by omega) (by omega) (fun x951_ x951_e x951_l x951_u => ?_)
            exact n_rW mS3_ FS3_ trivial
        · skip
          refine n_rI (L := 640) mS3_ (by decide) rfl (by omega) (by omega) (fun x252_ x252_e x252_l x252_u => ?_)
          have j53_ := Int32.toInt_toInt64 (a3)
          have L54_ : (0 : Int64).toInt = 0 := rfl
          try have i55_ : (x252_ - (1 : Int32)).toInt = x252_.toInt - (1 : Int32).toInt := i_sub (by omega) (by omega)
          have j56_ := Int32.toInt_toInt64 ((x252_ - (1 : Int32)))
          refine n_cP (nM_in  mS3_ ) (fun x357_ qx357_ => ?_)
          refine n_eq (fun c58_ => ?_) (fun c58_ => ?_)
          · skip
            exact n_rW mS3_ FS3_ trivial
          · skip
            have L59_ : (16 : Int32).toInt = 16 := rfl
            try have i60_ : ((16 : Int32) * x24_).toInt = 16 * x24_.toInt := i_mul (n := 16) rfl (by omega) (by omega)
            try have i61_ : (((16 : Int32) * x24_) + a3).toInt = ((16 : Int32) * x24_).toInt + a3.toInt := i_add (by omega) (by omega)
            refine n_rJ (L := 10240) (by decide) (by omega) (by omega) (fun x562_ x562_e => ?_)
            exact n_rW mS3_ FS3_ trivial
      · skip
        exact n_rW mS3_ FS3_ trivial

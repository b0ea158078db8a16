-- the world that the constructors made is the world of the walk
def zi_h0 : zj_H := fun i => if i = 4 then (fun k => if k = 5 then 1 else 0) else if i = 8 then (fun k => if k = 5 then 1 else 0) else fun _ => 0
def zi_g0 : zj_G := fun _ _ => 0
def zi_ads (a : Nat → Nat) (t : List Nat) : Nat → Nat := fun i => if i < 78 then a i else t.getD (i - 78) 0
def zi_mod (dA : Nat → ClassId) (h0 a1 a2 a3 a4 a5 a6 a7 a8 a9 : Nat) : va_W := [(h0, .inr (8, [.int 0, .ref a1, .int 0, .int 0, .int 0, .int 0, .int 0, .int 0, .int 0, .int 0, .long 0, .ref a2, .ref a3, .ref a4, .ref a5, .ref a6, .ref a7, .int 0, .ref a8, .ref a9, .int 0, .int 0, .int 0, .int 0, .int 0, .int 0, .int 0, .int 0])), (a1, .inl (dA 0, 540, .inl (fun _ => 0))), (a2, .inl (dA 0, 89, .inl (fun _ => 0))), (a3, .inl (dA 0, 89, .inl (fun _ => 0))), (a4, .inl (dA 0, 89, .inl (fun _ => 0))), (a5, .inl (dA 0, 890, .inl (fun _ => 0))), (a6, .inl (dA 0, 89, .inl (fun _ => 0))), (a7, .inl (dA 0, 89, .inl (fun _ => 0))), (a8, .inl (dA 0, 84, .inl (fun _ => 0))), (a9, .inl (dA 0, 84, .inl (fun _ => 0)))]
def zi_tl (dA : Nat → ClassId) (a : Nat → Nat) (h0 a1 a2 a3 a4 a5 a6 a7 a8 a9 q8 : Nat) : va_W := zi_dkr dA (fun k => a (34 + k)) 11 ++ zi_mod dA h0 a1 a2 a3 a4 a5 a6 a7 a8 a9 ++ [(q8, .inl (dA 2, 1, .inr (.inl (fun _ => 0))))]
def zi_L2 (dA : Nat → ClassId) (ad : Nat → Nat) : va_W := zi_o34 dA ad (fun k => some (ad (34 + 4 * k))) ++ zi_tl dA ad (ad 78) (ad 79) (ad 80) (ad 81) (ad 82) (ad 83) (ad 84) (ad 85) (ad 86) (ad 87) (ad 88)
def zi_mapi (F : Nat → Nat ⊕ Bool → Value) : Nat → List (Nat ⊕ Bool) → List Value
  | _, [] => []
  | n, x :: t => F n x :: zi_mapi F (n + 1) t
theorem zi_mapi_get (F : Nat → Nat ⊕ Bool → Value) : ∀ (fs : List (Nat ⊕ Bool)) (n i : Nat), (zi_mapi F n fs)[i]? = fs[i]?.map (F (n + i))
  | [], _, _ => rfl
  | x :: t, n, 0 => rfl
  | x :: t, n, i + 1 => by
    show (zi_mapi F (n + 1) t)[i]? = t[i]?.map (F (n + (i + 1)))
    rw [zi_mapi_get F t (n + 1) i, show n + 1 + i = n + (i + 1) by omega]
theorem zi_mapi_eq (F : Nat → Nat ⊕ Bool → Value) (fs : List (Nat ⊕ Bool)) : fs.mapIdx F = zi_mapi F 0 fs := by
  apply List.ext_getElem?
  intro i
  rw [List.getElem?_mapIdx, zi_mapi_get, Nat.zero_add]
def zj_ent2 (E : zj_E) (h : zj_H) (g : zj_G) (i : Nat) (sh : zj_Sh) : va_E := match sh with
  | .inl (ci, fs) => .inr (ci, zi_mapi (zj_fv E h g i) 0 fs)
  | .inr q => zj_ent E h g i (.inr q)
theorem zj_ent2_eq (E : zj_E) (h : zj_H) (g : zj_G) (i : Nat) (sh : zj_Sh) : zj_ent E h g i sh = zj_ent2 E h g i sh := by
  cases sh with
  | inl q =>
    obtain ⟨ci, fs⟩ := q
    show Sum.inr (ci, fs.mapIdx (zj_fv E h g i)) = _
    rw [zi_mapi_eq]; rfl
  | inr q => rfl
section ZE
variable {D : va_G} {dA : Nat → ClassId} {aK aV ad : Nat → Nat}
theorem zi_e_0 : (zi_L2 dA ad)[0]? = some (ad 0, zj_ent2 (D, ad, dA, aK, aV) zi_h0 zi_g0 0 (zj_shL.getD 0 (zj_arr 0))) := rfl
theorem zi_e_1 : (zi_L2 dA ad)[1]? = some (ad 1, zj_ent2 (D, ad, dA, aK, aV) zi_h0 zi_g0 1 (zj_shL.getD 1 (zj_arr 0))) := rfl
theorem zi_e_2 : (zi_L2 dA ad)[2]? = some (ad 2, zj_ent2 (D, ad, dA, aK, aV) zi_h0 zi_g0 2 (zj_shL.getD 2 (zj_arr 0))) := rfl
theorem zi_e_3 : (zi_L2 dA ad)[3]? = some (ad 3, zj_ent2 (D, ad, dA, aK, aV) zi_h0 zi_g0 3 (zj_shL.getD 3 (zj_arr 0))) := rfl
theorem zi_e_4 : (zi_L2 dA ad)[4]? = some (ad 4, zj_ent2 (D, ad, dA, aK, aV) zi_h0 zi_g0 4 (zj_shL.getD 4 (zj_arr 0))) := rfl
theorem zi_e_5 : (zi_L2 dA ad)[5]? = some (ad 5, zj_ent2 (D, ad, dA, aK, aV) zi_h0 zi_g0 5 (zj_shL.getD 5 (zj_arr 0))) := rfl
theorem zi_e_6 : (zi_L2 dA ad)[6]? = some (ad 6, zj_ent2 (D, ad, dA, aK, aV) zi_h0 zi_g0 6 (zj_shL.getD 6 (zj_arr 0))) := rfl
theorem zi_e_7 : (zi_L2 dA ad)[7]? = some (ad 7, zj_ent2 (D, ad, dA, aK, aV) zi_h0 zi_g0 7 (zj_shL.getD 7 (zj_arr 0))) := rfl
theorem zi_e_8 : (zi_L2 dA ad)[8]? = some (ad 8, zj_ent2 (D, ad, dA, aK, aV) zi_h0 zi_g0 8 (zj_shL.getD 8 (zj_arr 0))) := rfl
theorem zi_e_9 : (zi_L2 dA ad)[9]? = some (ad 9, zj_ent2 (D, ad, dA, aK, aV) zi_h0 zi_g0 9 (zj_shL.getD 9 (zj_arr 0))) := rfl
theorem zi_e_10 : (zi_L2 dA ad)[10]? = some (ad 10, zj_ent2 (D, ad, dA, aK, aV) zi_h0 zi_g0 10 (zj_shL.getD 10 (zj_arr 0))) := rfl
theorem zi_e_11 : (zi_L2 dA ad)[11]? = some (ad 11, zj_ent2 (D, ad, dA, aK, aV) zi_h0 zi_g0 11 (zj_shL.getD 11 (zj_arr 0))) := rfl
theorem zi_e_12 : (zi_L2 dA ad)[12]? = some (ad 12, zj_ent2 (D, ad, dA, aK, aV) zi_h0 zi_g0 12 (zj_shL.getD 12 (zj_arr 0))) := rfl
theorem zi_e_13 : (zi_L2 dA ad)[13]? = some (ad 13, zj_ent2 (D, ad, dA, aK, aV) zi_h0 zi_g0 13 (zj_shL.getD 13 (zj_arr 0))) := rfl
theorem zi_e_14 : (zi_L2 dA ad)[14]? = some (ad 14, zj_ent2 (D, ad, dA, aK, aV) zi_h0 zi_g0 14 (zj_shL.getD 14 (zj_arr 0))) := rfl
theorem zi_e_15 : (zi_L2 dA ad)[15]? = some (ad 15, zj_ent2 (D, ad, dA, aK, aV) zi_h0 zi_g0 15 (zj_shL.getD 15 (zj_arr 0))) := rfl
theorem zi_e_16 : (zi_L2 dA ad)[16]? = some (ad 16, zj_ent2 (D, ad, dA, aK, aV) zi_h0 zi_g0 16 (zj_shL.getD 16 (zj_arr 0))) := rfl
theorem zi_e_17 : (zi_L2 dA ad)[17]? = some (ad 17, zj_ent2 (D, ad, dA, aK, aV) zi_h0 zi_g0 17 (zj_shL.getD 17 (zj_arr 0))) := rfl
theorem zi_e_18 : (zi_L2 dA ad)[18]? = some (ad 18, zj_ent2 (D, ad, dA, aK, aV) zi_h0 zi_g0 18 (zj_shL.getD 18 (zj_arr 0))) := rfl
theorem zi_e_19 : (zi_L2 dA ad)[19]? = some (ad 19, zj_ent2 (D, ad, dA, aK, aV) zi_h0 zi_g0 19 (zj_shL.getD 19 (zj_arr 0))) := rfl
theorem zi_e_20 : (zi_L2 dA ad)[20]? = some (ad 20, zj_ent2 (D, ad, dA, aK, aV) zi_h0 zi_g0 20 (zj_shL.getD 20 (zj_arr 0))) := rfl
theorem zi_e_21 : (zi_L2 dA ad)[21]? = some (ad 21, zj_ent2 (D, ad, dA, aK, aV) zi_h0 zi_g0 21 (zj_shL.getD 21 (zj_arr 0))) := rfl
theorem zi_e_22 : (zi_L2 dA ad)[22]? = some (ad 22, zj_ent2 (D, ad, dA, aK, aV) zi_h0 zi_g0 22 (zj_shL.getD 22 (zj_arr 0))) := rfl
theorem zi_e_23 : (zi_L2 dA ad)[23]? = some (ad 23, zj_ent2 (D, ad, dA, aK, aV) zi_h0 zi_g0 23 (zj_shL.getD 23 (zj_arr 0))) := rfl
theorem zi_e_24 : (zi_L2 dA ad)[24]? = some (ad 24, zj_ent2 (D, ad, dA, aK, aV) zi_h0 zi_g0 24 (zj_shL.getD 24 (zj_arr 0))) := rfl
theorem zi_e_25 : (zi_L2 dA ad)[25]? = some (ad 25, zj_ent2 (D, ad, dA, aK, aV) zi_h0 zi_g0 25 (zj_shL.getD 25 (zj_arr 0))) := rfl
theorem zi_e_26 : (zi_L2 dA ad)[26]? = some (ad 26, zj_ent2 (D, ad, dA, aK, aV) zi_h0 zi_g0 26 (zj_shL.getD 26 (zj_arr 0))) := rfl
theorem zi_e_27 : (zi_L2 dA ad)[27]? = some (ad 27, zj_ent2 (D, ad, dA, aK, aV) zi_h0 zi_g0 27 (zj_shL.getD 27 (zj_arr 0))) := rfl
theorem zi_e_28 : (zi_L2 dA ad)[28]? = some (ad 28, zj_ent2 (D, ad, dA, aK, aV) zi_h0 zi_g0 28 (zj_shL.getD 28 (zj_arr 0))) := rfl
theorem zi_e_29 : (zi_L2 dA ad)[29]? = some (ad 29, zj_ent2 (D, ad, dA, aK, aV) zi_h0 zi_g0 29 (zj_shL.getD 29 (zj_arr 0))) := rfl
theorem zi_e_30 : (zi_L2 dA ad)[30]? = some (ad 30, zj_ent2 (D, ad, dA, aK, aV) zi_h0 zi_g0 30 (zj_shL.getD 30 (zj_arr 0))) := rfl
theorem zi_e_31 : (zi_L2 dA ad)[31]? = some (ad 31, zj_ent2 (D, ad, dA, aK, aV) zi_h0 zi_g0 31 (zj_shL.getD 31 (zj_arr 0))) := rfl
theorem zi_e_32 : (zi_L2 dA ad)[32]? = some (ad 32, zj_ent2 (D, ad, dA, aK, aV) zi_h0 zi_g0 32 (zj_shL.getD 32 (zj_arr 0))) := rfl
theorem zi_e_33 : (zi_L2 dA ad)[33]? = some (ad 33, zj_ent2 (D, ad, dA, aK, aV) zi_h0 zi_g0 33 (zj_shL.getD 33 (zj_arr 0))) := rfl
theorem zi_e_34 : (zi_L2 dA ad)[34]? = some (ad 34, zj_ent2 (D, ad, dA, aK, aV) zi_h0 zi_g0 34 (zj_shL.getD 34 (zj_arr 0))) := rfl
theorem zi_e_35 : (zi_L2 dA ad)[35]? = some (ad 35, zj_ent2 (D, ad, dA, aK, aV) zi_h0 zi_g0 35 (zj_shL.getD 35 (zj_arr 0))) := rfl
theorem zi_e_36 : (zi_L2 dA ad)[36]? = some (ad 36, zj_ent2 (D, ad, dA, aK, aV) zi_h0 zi_g0 36 (zj_shL.getD 36 (zj_arr 0))) := rfl
theorem zi_e_37 : (zi_L2 dA ad)[37]? = some (ad 37, zj_ent2 (D, ad, dA, aK, aV) zi_h0 zi_g0 37 (zj_shL.getD 37 (zj_arr 0))) := rfl
theorem zi_e_38 : (zi_L2 dA ad)[38]? = some (ad 38, zj_ent2 (D, ad, dA, aK, aV) zi_h0 zi_g0 38 (zj_shL.getD 38 (zj_arr 0))) := rfl
theorem zi_e_39 : (zi_L2 dA ad)[39]? = some (ad 39, zj_ent2 (D, ad, dA, aK, aV) zi_h0 zi_g0 39 (zj_shL.getD 39 (zj_arr 0))) := rfl
theorem zi_e_40 : (zi_L2 dA ad)[40]? = some (ad 40, zj_ent2 (D, ad, dA, aK, aV) zi_h0 zi_g0 40 (zj_shL.getD 40 (zj_arr 0))) := rfl
theorem zi_e_41 : (zi_L2 dA ad)[41]? = some (ad 41, zj_ent2 (D, ad, dA, aK, aV) zi_h0 zi_g0 41 (zj_shL.getD 41 (zj_arr 0))) := rfl
theorem zi_e_42 : (zi_L2 dA ad)[42]? = some (ad 42, zj_ent2 (D, ad, dA, aK, aV) zi_h0 zi_g0 42 (zj_shL.getD 42 (zj_arr 0))) := rfl
theorem zi_e_43 : (zi_L2 dA ad)[43]? = some (ad 43, zj_ent2 (D, ad, dA, aK, aV) zi_h0 zi_g0 43 (zj_shL.getD 43 (zj_arr 0))) := rfl
theorem zi_e_44 : (zi_L2 dA ad)[44]? = some (ad 44, zj_ent2 (D, ad, dA, aK, aV) zi_h0 zi_g0 44 (zj_shL.getD 44 (zj_arr 0))) := rfl
theorem zi_e_45 : (zi_L2 dA ad)[45]? = some (ad 45, zj_ent2 (D, ad, dA, aK, aV) zi_h0 zi_g0 45 (zj_shL.getD 45 (zj_arr 0))) := rfl
theorem zi_e_46 : (zi_L2 dA ad)[46]? = some (ad 46, zj_ent2 (D, ad, dA, aK, aV) zi_h0 zi_g0 46 (zj_shL.getD 46 (zj_arr 0))) := rfl
theorem zi_e_47 : (zi_L2 dA ad)[47]? = some (ad 47, zj_ent2 (D, ad, dA, aK, aV) zi_h0 zi_g0 47 (zj_shL.getD 47 (zj_arr 0))) := rfl
theorem zi_e_48 : (zi_L2 dA ad)[48]? = some (ad 48, zj_ent2 (D, ad, dA, aK, aV) zi_h0 zi_g0 48 (zj_shL.getD 48 (zj_arr 0))) := rfl
theorem zi_e_49 : (zi_L2 dA ad)[49]? = some (ad 49, zj_ent2 (D, ad, dA, aK, aV) zi_h0 zi_g0 49 (zj_shL.getD 49 (zj_arr 0))) := rfl
theorem zi_e_50 : (zi_L2 dA ad)[50]? = some (ad 50, zj_ent2 (D, ad, dA, aK, aV) zi_h0 zi_g0 50 (zj_shL.getD 50 (zj_arr 0))) := rfl
theorem zi_e_51 : (zi_L2 dA ad)[51]? = some (ad 51, zj_ent2 (D, ad, dA, aK, aV) zi_h0 zi_g0 51 (zj_shL.getD 51 (zj_arr 0))) := rfl
theorem zi_e_52 : (zi_L2 dA ad)[52]? = some (ad 52, zj_ent2 (D, ad, dA, aK, aV) zi_h0 zi_g0 52 (zj_shL.getD 52 (zj_arr 0))) := rfl
theorem zi_e_53 : (zi_L2 dA ad)[53]? = some (ad 53, zj_ent2 (D, ad, dA, aK, aV) zi_h0 zi_g0 53 (zj_shL.getD 53 (zj_arr 0))) := rfl
theorem zi_e_54 : (zi_L2 dA ad)[54]? = some (ad 54, zj_ent2 (D, ad, dA, aK, aV) zi_h0 zi_g0 54 (zj_shL.getD 54 (zj_arr 0))) := rfl
theorem zi_e_55 : (zi_L2 dA ad)[55]? = some (ad 55, zj_ent2 (D, ad, dA, aK, aV) zi_h0 zi_g0 55 (zj_shL.getD 55 (zj_arr 0))) := rfl
theorem zi_e_56 : (zi_L2 dA ad)[56]? = some (ad 56, zj_ent2 (D, ad, dA, aK, aV) zi_h0 zi_g0 56 (zj_shL.getD 56 (zj_arr 0))) := rfl
theorem zi_e_57 : (zi_L2 dA ad)[57]? = some (ad 57, zj_ent2 (D, ad, dA, aK, aV) zi_h0 zi_g0 57 (zj_shL.getD 57 (zj_arr 0))) := rfl
theorem zi_e_58 : (zi_L2 dA ad)[58]? = some (ad 58, zj_ent2 (D, ad, dA, aK, aV) zi_h0 zi_g0 58 (zj_shL.getD 58 (zj_arr 0))) := rfl
theorem zi_e_59 : (zi_L2 dA ad)[59]? = some (ad 59, zj_ent2 (D, ad, dA, aK, aV) zi_h0 zi_g0 59 (zj_shL.getD 59 (zj_arr 0))) := rfl
theorem zi_e_60 : (zi_L2 dA ad)[60]? = some (ad 60, zj_ent2 (D, ad, dA, aK, aV) zi_h0 zi_g0 60 (zj_shL.getD 60 (zj_arr 0))) := rfl
theorem zi_e_61 : (zi_L2 dA ad)[61]? = some (ad 61, zj_ent2 (D, ad, dA, aK, aV) zi_h0 zi_g0 61 (zj_shL.getD 61 (zj_arr 0))) := rfl
theorem zi_e_62 : (zi_L2 dA ad)[62]? = some (ad 62, zj_ent2 (D, ad, dA, aK, aV) zi_h0 zi_g0 62 (zj_shL.getD 62 (zj_arr 0))) := rfl
theorem zi_e_63 : (zi_L2 dA ad)[63]? = some (ad 63, zj_ent2 (D, ad, dA, aK, aV) zi_h0 zi_g0 63 (zj_shL.getD 63 (zj_arr 0))) := rfl
theorem zi_e_64 : (zi_L2 dA ad)[64]? = some (ad 64, zj_ent2 (D, ad, dA, aK, aV) zi_h0 zi_g0 64 (zj_shL.getD 64 (zj_arr 0))) := rfl
theorem zi_e_65 : (zi_L2 dA ad)[65]? = some (ad 65, zj_ent2 (D, ad, dA, aK, aV) zi_h0 zi_g0 65 (zj_shL.getD 65 (zj_arr 0))) := rfl
theorem zi_e_66 : (zi_L2 dA ad)[66]? = some (ad 66, zj_ent2 (D, ad, dA, aK, aV) zi_h0 zi_g0 66 (zj_shL.getD 66 (zj_arr 0))) := rfl
theorem zi_e_67 : (zi_L2 dA ad)[67]? = some (ad 67, zj_ent2 (D, ad, dA, aK, aV) zi_h0 zi_g0 67 (zj_shL.getD 67 (zj_arr 0))) := rfl
theorem zi_e_68 : (zi_L2 dA ad)[68]? = some (ad 68, zj_ent2 (D, ad, dA, aK, aV) zi_h0 zi_g0 68 (zj_shL.getD 68 (zj_arr 0))) := rfl
theorem zi_e_69 : (zi_L2 dA ad)[69]? = some (ad 69, zj_ent2 (D, ad, dA, aK, aV) zi_h0 zi_g0 69 (zj_shL.getD 69 (zj_arr 0))) := rfl
theorem zi_e_70 : (zi_L2 dA ad)[70]? = some (ad 70, zj_ent2 (D, ad, dA, aK, aV) zi_h0 zi_g0 70 (zj_shL.getD 70 (zj_arr 0))) := rfl
theorem zi_e_71 : (zi_L2 dA ad)[71]? = some (ad 71, zj_ent2 (D, ad, dA, aK, aV) zi_h0 zi_g0 71 (zj_shL.getD 71 (zj_arr 0))) := rfl
theorem zi_e_72 : (zi_L2 dA ad)[72]? = some (ad 72, zj_ent2 (D, ad, dA, aK, aV) zi_h0 zi_g0 72 (zj_shL.getD 72 (zj_arr 0))) := rfl
theorem zi_e_73 : (zi_L2 dA ad)[73]? = some (ad 73, zj_ent2 (D, ad, dA, aK, aV) zi_h0 zi_g0 73 (zj_shL.getD 73 (zj_arr 0))) := rfl
theorem zi_e_74 : (zi_L2 dA ad)[74]? = some (ad 74, zj_ent2 (D, ad, dA, aK, aV) zi_h0 zi_g0 74 (zj_shL.getD 74 (zj_arr 0))) := rfl
theorem zi_e_75 : (zi_L2 dA ad)[75]? = some (ad 75, zj_ent2 (D, ad, dA, aK, aV) zi_h0 zi_g0 75 (zj_shL.getD 75 (zj_arr 0))) := rfl
theorem zi_e_76 : (zi_L2 dA ad)[76]? = some (ad 76, zj_ent2 (D, ad, dA, aK, aV) zi_h0 zi_g0 76 (zj_shL.getD 76 (zj_arr 0))) := rfl
theorem zi_e_77 : (zi_L2 dA ad)[77]? = some (ad 77, zj_ent2 (D, ad, dA, aK, aV) zi_h0 zi_g0 77 (zj_shL.getD 77 (zj_arr 0))) := rfl
theorem zi_e_78 : (zi_L2 dA ad)[78]? = some (ad 78, zj_ent2 (D, ad, dA, aK, aV) zi_h0 zi_g0 78 (zj_shL.getD 78 (zj_arr 0))) := rfl
theorem zi_e_79 : (zi_L2 dA ad)[79]? = some (ad 79, zj_ent2 (D, ad, dA, aK, aV) zi_h0 zi_g0 79 (zj_shL.getD 79 (zj_arr 0))) := rfl
theorem zi_e_80 : (zi_L2 dA ad)[80]? = some (ad 80, zj_ent2 (D, ad, dA, aK, aV) zi_h0 zi_g0 80 (zj_shL.getD 80 (zj_arr 0))) := rfl
theorem zi_e_81 : (zi_L2 dA ad)[81]? = some (ad 81, zj_ent2 (D, ad, dA, aK, aV) zi_h0 zi_g0 81 (zj_shL.getD 81 (zj_arr 0))) := rfl
theorem zi_e_82 : (zi_L2 dA ad)[82]? = some (ad 82, zj_ent2 (D, ad, dA, aK, aV) zi_h0 zi_g0 82 (zj_shL.getD 82 (zj_arr 0))) := rfl
theorem zi_e_83 : (zi_L2 dA ad)[83]? = some (ad 83, zj_ent2 (D, ad, dA, aK, aV) zi_h0 zi_g0 83 (zj_shL.getD 83 (zj_arr 0))) := rfl
theorem zi_e_84 : (zi_L2 dA ad)[84]? = some (ad 84, zj_ent2 (D, ad, dA, aK, aV) zi_h0 zi_g0 84 (zj_shL.getD 84 (zj_arr 0))) := rfl
theorem zi_e_85 : (zi_L2 dA ad)[85]? = some (ad 85, zj_ent2 (D, ad, dA, aK, aV) zi_h0 zi_g0 85 (zj_shL.getD 85 (zj_arr 0))) := rfl
theorem zi_e_86 : (zi_L2 dA ad)[86]? = some (ad 86, zj_ent2 (D, ad, dA, aK, aV) zi_h0 zi_g0 86 (zj_shL.getD 86 (zj_arr 0))) := rfl
theorem zi_e_87 : (zi_L2 dA ad)[87]? = some (ad 87, zj_ent2 (D, ad, dA, aK, aV) zi_h0 zi_g0 87 (zj_shL.getD 87 (zj_arr 0))) := rfl
theorem zi_e_88 : (zi_L2 dA ad)[88]? = some (ad 88, zj_ent2 (D, ad, dA, aK, aV) zi_h0 zi_g0 88 (zj_shL.getD 88 (zj_arr 0))) := rfl
end ZE
def zi_o33 (dA : Nat → ClassId) (a : Nat → Nat) : va_W := (zi_o34 dA a (fun _ => none)).dropLast
theorem zi_o33_eq {dA : Nat → ClassId} {a : Nat → Nat} {f : Nat → Option Nat} : zi_o34 dA a f = zi_o33 dA a ++ [(a 33, .inl (dA 3, 11, .inr (.inr (.inr (.inr f)))))] := rfl
theorem zi_swap {ws1 ws2 : va_W} {x y : Nat × va_E} {k : Nat} {q : Nat × va_E} (h : (ws1 ++ x :: ws2)[k]? = some q) : (q = x ∧ (ws1 ++ y :: ws2)[k]? = some y) ∨ (ws1 ++ y :: ws2)[k]? = some q := by
  rcases Nat.lt_trichotomy k ws1.length with hk | hk | hk
  · right
    rw [List.getElem?_append_left hk] at h ⊢; exact h
  · left
    rw [List.getElem?_append_right (by omega), show k - ws1.length = 0 by omega] at h ⊢
    exact ⟨(Option.some.inj h).symm, rfl⟩
  · right
    rw [List.getElem?_append_right (by omega)] at h ⊢
    obtain ⟨j, hj⟩ : ∃ j, k - ws1.length = j + 1 := ⟨k - ws1.length - 1, by omega⟩
    rw [hj] at h ⊢; exact h
theorem zi_arrV {cA : ClassId} {n : Nat} {f f' : Nat → Option Nat} (hf : ∀ k, k < n → f k = f' k) : vp_cell cA (n, .inr (.inr (.inr (.inr f)))) = vp_cell cA (n, .inr (.inr (.inr (.inr f')))) := by
  rw [vp_cell_q, vp_cell_q]
  unfold arrV
  congr 1
  apply Array.ext
  · simp
  · intro i h1 h2
    simp at h1
    simp [hf i h1]
theorem zi_P_f {D : va_G} {cl : List vw_C} {ws1 ws2 : va_W} {a n : Nat} {cA : ClassId} {f f' : Nat → Option Nat} {H : Heap} (hf : ∀ k, k < n → f k = f' k) (hP : va_P D cl (ws1 ++ (a, .inl (cA, n, .inr (.inr (.inr (.inr f))))) :: ws2) H) : va_P D cl (ws1 ++ (a, .inl (cA, n, .inr (.inr (.inr (.inr f'))))) :: ws2) H := by
  intro k q hq
  rcases zi_swap (y := (a, .inl (cA, n, .inr (.inr (.inr (.inr f)))))) hq with ⟨rfl, h⟩ | h
  · have z := hP k _ h
    show H[a]? = some (vp_cell cA (n, .inr (.inr (.inr (.inr f')))))
    rw [← zi_arrV hf]; exact z
  · exact hP k q h
theorem zi_D_f {A : Nat → Prop} {ws1 ws2 : va_W} {a : Nat} {e e' : va_E} (hD : va_D A (ws1 ++ (a, e) :: ws2)) : va_D A (ws1 ++ (a, e') :: ws2) := by
  have key : ∀ (k : Nat) (q : Nat × va_E), (ws1 ++ (a, e') :: ws2)[k]? = some q → ∃ q2, (ws1 ++ (a, e) :: ws2)[k]? = some q2 ∧ q2.1 = q.1 := by
    intro k q hq
    rcases zi_swap (y := (a, e)) hq with ⟨rfl, h⟩ | h
    · exact ⟨_, h, rfl⟩
    · exact ⟨_, h, rfl⟩
  refine ⟨fun i j p q hp hq e => ?_, fun k q hq => ?_⟩
  · obtain ⟨p2, a1, a2⟩ := key i p hp
    obtain ⟨q2, b1, b2⟩ := key j q hq
    exact hD.1 i j p2 q2 a1 b1 (by rw [a2, b2]; exact e)
  · obtain ⟨q2, b1, b2⟩ := key k q hq
    rw [← b2]; exact hD.2 k q2 b1
/-- the relation at the beginning -/
theorem zi_I0 : zIx zi_h0 := by
  refine ⟨0, 0, 0, 0, 0, 0, ⟨rfl, by decide, rfl, by decide, rfl, by decide, rfl, rfl, rfl, ⟨rfl, rfl, rfl, rfl, rfl, rfl, fun j hj => absurd hj (Nat.not_lt_zero j), fun c hc => absurd hc (Nat.not_lt_zero c), fun b => ?_⟩, ⟨0, by decide, rfl⟩, ⟨0, by decide, rfl⟩, ⟨0, by decide, rfl⟩, fun c hc => absurd hc (Nat.not_lt_zero c), fun c hc => absurd hc (Nat.not_lt_zero c)⟩, ⟨⟨rfl, rfl, fun c hc => absurd hc (Nat.not_lt_zero c), fun c hc => absurd hc (Nat.not_lt_zero c), fun c hc => absurd hc (Nat.not_lt_zero c)⟩, 0, by decide, rfl⟩, ⟨rfl, by decide, rfl, fun i hi => absurd hi (Nat.not_lt_zero i)⟩, ⟨by decide, by decide, rfl, rfl, rfl, fun r hr => absurd hr (Nat.not_lt_zero r)⟩, rfl⟩
  show decide (¬ b &&& (0 : Int32) = 0) = false
  rw [decide_eq_false]
  intro z
  apply z
  apply b_ext
  intro i hi
  rw [b_and, b_0, Bool.and_false]

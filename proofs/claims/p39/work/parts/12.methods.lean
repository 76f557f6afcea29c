/-! method by method; by program (wip/tools/tables.py) -/
theorem kX0_init : ab_ck1 mX0_init 1106 = true := by decide +kernel
theorem kX0_init_0 : ab_ckr 0 mX0_init 0 = true := by decide +kernel
theorem oX0_init : ab_ok ab_Nl ab_Sl ab_M ab_G ab_Ws mX0_init := ab_ck_ok (J := 1) rfl kX0_init (fun j h => by
  match j, h with
  | 0, _ => exact kX0_init_0) (by decide +kernel)
theorem kX0_bitsBy : ab_ck1 mX0_bitsBy 3089 = true := by decide +kernel
theorem kX0_bitsBy_0 : ab_ckr 0 mX0_bitsBy 0 = true := by decide +kernel
theorem oX0_bitsBy : ab_ok ab_Nl ab_Sl ab_M ab_G ab_Ws mX0_bitsBy := ab_ck_ok (J := 1) rfl kX0_bitsBy (fun j h => by
  match j, h with
  | 0, _ => exact kX0_bitsBy_0) (by decide +kernel)
theorem kX0_weigh : ab_ck1 mX0_weigh 3111 = true := by decide +kernel
theorem kX0_weigh_0 : ab_ckr 0 mX0_weigh 0 = true := by decide +kernel
theorem oX0_weigh : ab_ok ab_Nl ab_Sl ab_M ab_G ab_Ws mX0_weigh := ab_ck_ok (J := 1) rfl kX0_weigh (fun j h => by
  match j, h with
  | 0, _ => exact kX0_weigh_0) (by decide +kernel)
theorem kX0_putIn : ab_ck1 mX0_putIn 3122 = true := by decide +kernel
theorem kX0_putIn_0 : ab_ckr 0 mX0_putIn 0 = true := by decide +kernel
theorem oX0_putIn : ab_ok ab_Nl ab_Sl ab_M ab_G ab_Ws mX0_putIn := ab_ck_ok (J := 1) rfl kX0_putIn (fun j h => by
  match j, h with
  | 0, _ => exact kX0_putIn_0) (by decide +kernel)
theorem kX0_fewestFor : ab_ck1 mX0_fewestFor 3126 = true := by decide +kernel
theorem kX0_fewestFor_0 : ab_ckr 0 mX0_fewestFor 0 = true := by decide +kernel
theorem oX0_fewestFor : ab_ok ab_Nl ab_Sl ab_M ab_G ab_Ws mX0_fewestFor := ab_ck_ok (J := 1) rfl kX0_fewestFor (fun j h => by
  match j, h with
  | 0, _ => exact kX0_fewestFor_0) (by decide +kernel)
theorem kX0_amountsOf : ab_ck1 mX0_amountsOf 3171 = true := by decide +kernel
theorem kX0_amountsOf_0 : ab_ckr 0 mX0_amountsOf 0 = true := by decide +kernel
theorem oX0_amountsOf : ab_ok ab_Nl ab_Sl ab_M ab_G ab_Ws mX0_amountsOf := ab_ck_ok (J := 1) rfl kX0_amountsOf (fun j h => by
  match j, h with
  | 0, _ => exact kX0_amountsOf_0) (by decide +kernel)
theorem kX1_init : ab_ck1 mX1_init 1145 = true := by decide +kernel
theorem kX1_init_0 : ab_ckr 1 mX1_init 0 = true := by decide +kernel
theorem oX1_init : ab_ok ab_Nl ab_Sl ab_M ab_G ab_Ws mX1_init := ab_ck_ok (J := 1) rfl kX1_init (fun j h => by
  match j, h with
  | 0, _ => exact kX1_init_0) (by decide +kernel)
theorem kX1_bodyAt : ab_ck1 mX1_bodyAt 4078 = true := by decide +kernel
theorem kX1_bodyAt_0 : ab_ckr 1 mX1_bodyAt 0 = true := by decide +kernel
theorem oX1_bodyAt : ab_ok ab_Nl ab_Sl ab_M ab_G ab_Ws mX1_bodyAt := ab_ck_ok (J := 1) rfl kX1_bodyAt (fun j h => by
  match j, h with
  | 0, _ => exact kX1_bodyAt_0) (by decide +kernel)
theorem kX1_answer : ab_ck1 mX1_answer 4052 = true := by decide +kernel
theorem kX1_answer_0 : ab_ckr 1 mX1_answer 0 = true := by decide +kernel
theorem oX1_answer : ab_ok ab_Nl ab_Sl ab_M ab_G ab_Ws mX1_answer := ab_ck_ok (J := 1) rfl kX1_answer (fun j h => by
  match j, h with
  | 0, _ => exact kX1_answer_0) (by decide +kernel)
theorem kX1_begin : ab_ck1 mX1_begin 4070 = true := by decide +kernel
theorem kX1_begin_0 : ab_ckr 1 mX1_begin 0 = true := by decide +kernel
theorem oX1_begin : ab_ok ab_Nl ab_Sl ab_M ab_G ab_Ws mX1_begin := ab_ck_ok (J := 1) rfl kX1_begin (fun j h => by
  match j, h with
  | 0, _ => exact kX1_begin_0) (by decide +kernel)
theorem kX1_bodyOf : ab_ck1 mX1_bodyOf 4063 = true := by decide +kernel
theorem kX1_bodyOf_0 : ab_ckr 1 mX1_bodyOf 0 = true := by decide +kernel
theorem oX1_bodyOf : ab_ok ab_Nl ab_Sl ab_M ab_G ab_Ws mX1_bodyOf := ab_ck_ok (J := 1) rfl kX1_bodyOf (fun j h => by
  match j, h with
  | 0, _ => exact kX1_bodyOf_0) (by decide +kernel)
theorem kX1_kindWithBody : ab_ck1 mX1_kindWithBody 4060 = true := by decide +kernel
theorem kX1_kindWithBody_0 : ab_ckr 1 mX1_kindWithBody 0 = true := by decide +kernel
theorem oX1_kindWithBody : ab_ok ab_Nl ab_Sl ab_M ab_G ab_Ws mX1_kindWithBody := ab_ck_ok (J := 1) rfl kX1_kindWithBody (fun j h => by
  match j, h with
  | 0, _ => exact kX1_kindWithBody_0) (by decide +kernel)
theorem kX1_answerFrom : ab_ck1 mX1_answerFrom 4056 = true := by decide +kernel
theorem kX1_answerFrom_0 : ab_ckr 1 mX1_answerFrom 0 = true := by decide +kernel
theorem kX1_answerFrom_1 : ab_ckr 1 mX1_answerFrom 1 = true := by decide +kernel
theorem kX1_answerFrom_2 : ab_ckr 1 mX1_answerFrom 2 = true := by decide +kernel
theorem oX1_answerFrom : ab_ok ab_Nl ab_Sl ab_M ab_G ab_Ws mX1_answerFrom := ab_ck_ok (J := 3) rfl kX1_answerFrom (fun j h => by
  match j, h with
  | 0, _ => exact kX1_answerFrom_0
  | 1, _ => exact kX1_answerFrom_1
  | 2, _ => exact kX1_answerFrom_2) (by decide +kernel)
theorem kX2_init : ab_ck1 mX2_init 1116 = true := by decide +kernel
theorem kX2_init_0 : ab_ckr 2 mX2_init 0 = true := by decide +kernel
theorem oX2_init : ab_ok ab_Nl ab_Sl ab_M ab_G ab_Ws mX2_init := ab_ck_ok (J := 1) rfl kX2_init (fun j h => by
  match j, h with
  | 0, _ => exact kX2_init_0) (by decide +kernel)
theorem kX2_read : ab_ck1 mX2_read 2161 = true := by decide +kernel
theorem kX2_read_0 : ab_ckr 2 mX2_read 0 = true := by decide +kernel
theorem oX2_read : ab_ok ab_Nl ab_Sl ab_M ab_G ab_Ws mX2_read := ab_ck_ok (J := 1) rfl kX2_read (fun j h => by
  match j, h with
  | 0, _ => exact kX2_read_0) (by decide +kernel)
theorem kX2_readItem : ab_ck1 mX2_readItem 2182 = true := by decide +kernel
theorem kX2_readItem_0 : ab_ckr 2 mX2_readItem 0 = true := by decide +kernel
theorem oX2_readItem : ab_ok ab_Nl ab_Sl ab_M ab_G ab_Ws mX2_readItem := ab_ck_ok (J := 1) rfl kX2_readItem (fun j h => by
  match j, h with
  | 0, _ => exact kX2_readItem_0) (by decide +kernel)
theorem kX2_readPiece : ab_ck1 mX2_readPiece 3017 = true := by decide +kernel
theorem kX2_readPiece_0 : ab_ckr 2 mX2_readPiece 0 = true := by decide +kernel
theorem oX2_readPiece : ab_ok ab_Nl ab_Sl ab_M ab_G ab_Ws mX2_readPiece := ab_ck_ok (J := 1) rfl kX2_readPiece (fun j h => by
  match j, h with
  | 0, _ => exact kX2_readPiece_0) (by decide +kernel)
theorem kX2_readPerson : ab_ck1 mX2_readPerson 3039 = true := by decide +kernel
theorem kX2_readPerson_0 : ab_ckr 2 mX2_readPerson 0 = true := by decide +kernel
theorem oX2_readPerson : ab_ok ab_Nl ab_Sl ab_M ab_G ab_Ws mX2_readPerson := ab_ck_ok (J := 1) rfl kX2_readPerson (fun j h => by
  match j, h with
  | 0, _ => exact kX2_readPerson_0) (by decide +kernel)
theorem kX2_readCost : ab_ck1 mX2_readCost 3045 = true := by decide +kernel
theorem kX2_readCost_0 : ab_ckr 2 mX2_readCost 0 = true := by decide +kernel
theorem oX2_readCost : ab_ok ab_Nl ab_Sl ab_M ab_G ab_Ws mX2_readCost := ab_ck_ok (J := 1) rfl kX2_readCost (fun j h => by
  match j, h with
  | 0, _ => exact kX2_readCost_0) (by decide +kernel)
theorem kX2_readHas : ab_ck1 mX2_readHas 3049 = true := by decide +kernel
theorem kX2_readHas_0 : ab_ckr 2 mX2_readHas 0 = true := by decide +kernel
theorem oX2_readHas : ab_ok ab_Nl ab_Sl ab_M ab_G ab_Ws mX2_readHas := ab_ck_ok (J := 1) rfl kX2_readHas (fun j h => by
  match j, h with
  | 0, _ => exact kX2_readHas_0) (by decide +kernel)
theorem kX2_readBack : ab_ck1 mX2_readBack 3053 = true := by decide +kernel
theorem kX2_readBack_0 : ab_ckr 2 mX2_readBack 0 = true := by decide +kernel
theorem oX2_readBack : ab_ok ab_Nl ab_Sl ab_M ab_G ab_Ws mX2_readBack := ab_ck_ok (J := 1) rfl kX2_readBack (fun j h => by
  match j, h with
  | 0, _ => exact kX2_readBack_0) (by decide +kernel)
theorem kX2_readWord : ab_ck1 mX2_readWord 2186 = true := by decide +kernel
theorem kX2_readWord_0 : ab_ckr 2 mX2_readWord 0 = true := by decide +kernel
theorem oX2_readWord : ab_ok ab_Nl ab_Sl ab_M ab_G ab_Ws mX2_readWord := ab_ck_ok (J := 1) rfl kX2_readWord (fun j h => by
  match j, h with
  | 0, _ => exact kX2_readWord_0) (by decide +kernel)
theorem kX2_spelt : ab_ck1 mX2_spelt 2189 = true := by decide +kernel
theorem kX2_spelt_0 : ab_ckr 2 mX2_spelt 0 = true := by decide +kernel
theorem oX2_spelt : ab_ok ab_Nl ab_Sl ab_M ab_G ab_Ws mX2_spelt := ab_ck_ok (J := 1) rfl kX2_spelt (fun j h => by
  match j, h with
  | 0, _ => exact kX2_spelt_0) (by decide +kernel)
theorem kX2_lettersAsIn : ab_ck1 mX2_lettersAsIn 2200 = true := by decide +kernel
theorem kX2_lettersAsIn_0 : ab_ckr 2 mX2_lettersAsIn 0 = true := by decide +kernel
theorem oX2_lettersAsIn : ab_ok ab_Nl ab_Sl ab_M ab_G ab_Ws mX2_lettersAsIn := ab_ck_ok (J := 1) rfl kX2_lettersAsIn (fun j h => by
  match j, h with
  | 0, _ => exact kX2_lettersAsIn_0) (by decide +kernel)
theorem kX2_stands : ab_ck1 mX2_stands 3012 = true := by decide +kernel
theorem kX2_stands_0 : ab_ckr 2 mX2_stands 0 = true := by decide +kernel
theorem oX2_stands : ab_ok ab_Nl ab_Sl ab_M ab_G ab_Ws mX2_stands := ab_ck_ok (J := 1) rfl kX2_stands (fun j h => by
  match j, h with
  | 0, _ => exact kX2_stands_0) (by decide +kernel)
theorem kX2_readSign : ab_ck1 mX2_readSign 3026 = true := by decide +kernel
theorem kX2_readSign_0 : ab_ckr 2 mX2_readSign 0 = true := by decide +kernel
theorem oX2_readSign : ab_ok ab_Nl ab_Sl ab_M ab_G ab_Ws mX2_readSign := ab_ck_ok (J := 1) rfl kX2_readSign (fun j h => by
  match j, h with
  | 0, _ => exact kX2_readSign_0) (by decide +kernel)
theorem kX2_readNumber : ab_ck1 mX2_readNumber 3022 = true := by decide +kernel
theorem kX2_readNumber_0 : ab_ckr 2 mX2_readNumber 0 = true := by decide +kernel
theorem oX2_readNumber : ab_ok ab_Nl ab_Sl ab_M ab_G ab_Ws mX2_readNumber := ab_ck_ok (J := 1) rfl kX2_readNumber (fun j h => by
  match j, h with
  | 0, _ => exact kX2_readNumber_0) (by decide +kernel)
theorem kX2_isDigit : ab_ck1 mX2_isDigit 3030 = true := by decide +kernel
theorem kX2_isDigit_0 : ab_ckr 2 mX2_isDigit 0 = true := by decide +kernel
theorem oX2_isDigit : ab_ok ab_Nl ab_Sl ab_M ab_G ab_Ws mX2_isDigit := ab_ck_ok (J := 1) rfl kX2_isDigit (fun j h => by
  match j, h with
  | 0, _ => exact kX2_isDigit_0) (by decide +kernel)
theorem kX2_readDigit : ab_ck1 mX2_readDigit 3034 = true := by decide +kernel
theorem kX2_readDigit_0 : ab_ckr 2 mX2_readDigit 0 = true := by decide +kernel
theorem oX2_readDigit : ab_ok ab_Nl ab_Sl ab_M ab_G ab_Ws mX2_readDigit := ab_ck_ok (J := 1) rfl kX2_readDigit (fun j h => by
  match j, h with
  | 0, _ => exact kX2_readDigit_0) (by decide +kernel)
theorem kX3_init : ab_ck1 mX3_init 1167 = true := by decide +kernel
theorem kX3_init_0 : ab_ckr 3 mX3_init 0 = true := by decide +kernel
theorem oX3_init : ab_ok ab_Nl ab_Sl ab_M ab_G ab_Ws mX3_init := ab_ck_ok (J := 1) rfl kX3_init (fun j h => by
  match j, h with
  | 0, _ => exact kX3_init_0) (by decide +kernel)
theorem kX3_holdRow : ab_ck1 mX3_holdRow 1230 = true := by decide +kernel
theorem kX3_holdRow_0 : ab_ckr 3 mX3_holdRow 0 = true := by decide +kernel
theorem oX3_holdRow : ab_ok ab_Nl ab_Sl ab_M ab_G ab_Ws mX3_holdRow := ab_ck_ok (J := 1) rfl kX3_holdRow (fun j h => by
  match j, h with
  | 0, _ => exact kX3_holdRow_0) (by decide +kernel)
theorem kX3_holdPiece : ab_ck1 mX3_holdPiece 2063 = true := by decide +kernel
theorem kX3_holdPiece_0 : ab_ckr 3 mX3_holdPiece 0 = true := by decide +kernel
theorem oX3_holdPiece : ab_ok ab_Nl ab_Sl ab_M ab_G ab_Ws mX3_holdPiece := ab_ck_ok (J := 1) rfl kX3_holdPiece (fun j h => by
  match j, h with
  | 0, _ => exact kX3_holdPiece_0) (by decide +kernel)
theorem kX3_isEmpty : ab_ck1 mX3_isEmpty 2009 = true := by decide +kernel
theorem kX3_isEmpty_0 : ab_ckr 3 mX3_isEmpty 0 = true := by decide +kernel
theorem oX3_isEmpty : ab_ok ab_Nl ab_Sl ab_M ab_G ab_Ws mX3_isEmpty := ab_ck_ok (J := 1) rfl kX3_isEmpty (fun j h => by
  match j, h with
  | 0, _ => exact kX3_isEmpty_0) (by decide +kernel)
theorem kX3_isOtherThanRow : ab_ck1 mX3_isOtherThanRow 2005 = true := by decide +kernel
theorem kX3_isOtherThanRow_0 : ab_ckr 3 mX3_isOtherThanRow 0 = true := by decide +kernel
theorem oX3_isOtherThanRow : ab_ok ab_Nl ab_Sl ab_M ab_G ab_Ws mX3_isOtherThanRow := ab_ck_ok (J := 1) rfl kX3_isOtherThanRow (fun j h => by
  match j, h with
  | 0, _ => exact kX3_isOtherThanRow_0) (by decide +kernel)
theorem kX3_isOfOtherSort : ab_ck1 mX3_isOfOtherSort 2030 = true := by decide +kernel
theorem kX3_isOfOtherSort_0 : ab_ckr 3 mX3_isOfOtherSort 0 = true := by decide +kernel
theorem oX3_isOfOtherSort : ab_ok ab_Nl ab_Sl ab_M ab_G ab_Ws mX3_isOfOtherSort := ab_ck_ok (J := 1) rfl kX3_isOfOtherSort (fun j h => by
  match j, h with
  | 0, _ => exact kX3_isOfOtherSort_0) (by decide +kernel)
theorem kX3_hasElement : ab_ck1 mX3_hasElement 2013 = true := by decide +kernel
theorem kX3_hasElement_0 : ab_ckr 3 mX3_hasElement 0 = true := by decide +kernel
theorem oX3_hasElement : ab_ok ab_Nl ab_Sl ab_M ab_G ab_Ws mX3_hasElement := ab_ck_ok (J := 1) rfl kX3_hasElement (fun j h => by
  match j, h with
  | 0, _ => exact kX3_hasElement_0) (by decide +kernel)
theorem kX3_hasStretch : ab_ck1 mX3_hasStretch 2035 = true := by decide +kernel
theorem kX3_hasStretch_0 : ab_ckr 3 mX3_hasStretch 0 = true := by decide +kernel
theorem oX3_hasStretch : ab_ok ab_Nl ab_Sl ab_M ab_G ab_Ws mX3_hasStretch := ab_ck_ok (J := 1) rfl kX3_hasStretch (fun j h => by
  match j, h with
  | 0, _ => exact kX3_hasStretch_0) (by decide +kernel)
theorem kX3_put : ab_ck1 mX3_put 2017 = true := by decide +kernel
theorem kX3_put_0 : ab_ckr 3 mX3_put 0 = true := by decide +kernel
theorem oX3_put : ab_ok ab_Nl ab_Sl ab_M ab_G ab_Ws mX3_put := ab_ck_ok (J := 1) rfl kX3_put (fun j h => by
  match j, h with
  | 0, _ => exact kX3_put_0) (by decide +kernel)
theorem kX3_lowestBits : ab_ck1 mX3_lowestBits 2022 = true := by decide +kernel
theorem kX3_lowestBits_0 : ab_ckr 3 mX3_lowestBits 0 = true := by decide +kernel
theorem oX3_lowestBits : ab_ok ab_Nl ab_Sl ab_M ab_G ab_Ws mX3_lowestBits := ab_ck_ok (J := 1) rfl kX3_lowestBits (fun j h => by
  match j, h with
  | 0, _ => exact kX3_lowestBits_0) (by decide +kernel)
theorem kX3_copyTo : ab_ck1 mX3_copyTo 2039 = true := by decide +kernel
theorem kX3_copyTo_0 : ab_ckr 3 mX3_copyTo 0 = true := by decide +kernel
theorem oX3_copyTo : ab_ok ab_Nl ab_Sl ab_M ab_G ab_Ws mX3_copyTo := ab_ck_ok (J := 1) rfl kX3_copyTo (fun j h => by
  match j, h with
  | 0, _ => exact kX3_copyTo_0) (by decide +kernel)
theorem kX3_whole : ab_ck1 mX3_whole 2051 = true := by decide +kernel
theorem kX3_whole_0 : ab_ckr 3 mX3_whole 0 = true := by decide +kernel
theorem oX3_whole : ab_ok ab_Nl ab_Sl ab_M ab_G ab_Ws mX3_whole := ab_ck_ok (J := 1) rfl kX3_whole (fun j h => by
  match j, h with
  | 0, _ => exact kX3_whole_0) (by decide +kernel)
theorem kX3_read : ab_ck1 mX3_read 2177 = true := by decide +kernel
theorem kX3_read_0 : ab_ckr 3 mX3_read 0 = true := by decide +kernel
theorem oX3_read : ab_ok ab_Nl ab_Sl ab_M ab_G ab_Ws mX3_read := ab_ck_ok (J := 1) rfl kX3_read (fun j h => by
  match j, h with
  | 0, _ => exact kX3_read_0) (by decide +kernel)
theorem kX3_readAll : ab_ck1 mX3_readAll 2170 = true := by decide +kernel
theorem kX3_readAll_0 : ab_ckr 3 mX3_readAll 0 = true := by decide +kernel
theorem oX3_readAll : ab_ok ab_Nl ab_Sl ab_M ab_G ab_Ws mX3_readAll := ab_ck_ok (J := 1) rfl kX3_readAll (fun j h => by
  match j, h with
  | 0, _ => exact kX3_readAll_0) (by decide +kernel)
theorem kX3_first : ab_ck1 mX3_first 3187 = true := by decide +kernel
theorem kX3_first_0 : ab_ckr 3 mX3_first 0 = true := by decide +kernel
theorem oX3_first : ab_ok ab_Nl ab_Sl ab_M ab_G ab_Ws mX3_first := ab_ck_ok (J := 1) rfl kX3_first (fun j h => by
  match j, h with
  | 0, _ => exact kX3_first_0) (by decide +kernel)
theorem kX3_second : ab_ck1 mX3_second 3191 = true := by decide +kernel
theorem kX3_second_0 : ab_ckr 3 mX3_second 0 = true := by decide +kernel
theorem oX3_second : ab_ok ab_Nl ab_Sl ab_M ab_G ab_Ws mX3_second := ab_ck_ok (J := 1) rfl kX3_second (fun j h => by
  match j, h with
  | 0, _ => exact kX3_second_0) (by decide +kernel)
theorem kX4_init : ab_ck1 mX4_init 1028 = true := by decide +kernel
theorem kX4_init_0 : ab_ckr 4 mX4_init 0 = true := by decide +kernel
theorem kX4_init_1 : ab_ckr 4 mX4_init 1 = true := by decide +kernel
theorem oX4_init : ab_ok ab_Nl ab_Sl ab_M ab_G ab_Ws mX4_init := ab_ck_ok (J := 2) rfl kX4_init (fun j h => by
  match j, h with
  | 0, _ => exact kX4_init_0
  | 1, _ => exact kX4_init_1) (by decide +kernel)
theorem kX4_isKind : ab_ck1 mX4_isKind 2074 = true := by decide +kernel
theorem kX4_isKind_0 : ab_ckr 4 mX4_isKind 0 = true := by decide +kernel
theorem oX4_isKind : ab_ok ab_Nl ab_Sl ab_M ab_G ab_Ws mX4_isKind := ab_ck_ok (J := 1) rfl kX4_isKind (fun j h => by
  match j, h with
  | 0, _ => exact kX4_isKind_0) (by decide +kernel)
theorem kX4_isWish : ab_ck1 mX4_isWish 2112 = true := by decide +kernel
theorem kX4_isWish_0 : ab_ckr 4 mX4_isWish 0 = true := by decide +kernel
theorem oX4_isWish : ab_ok ab_Nl ab_Sl ab_M ab_G ab_Ws mX4_isWish := ab_ck_ok (J := 1) rfl kX4_isWish (fun j h => by
  match j, h with
  | 0, _ => exact kX4_isWish_0) (by decide +kernel)
theorem kX4_isAmount : ab_ck1 mX4_isAmount 3085 = true := by decide +kernel
theorem kX4_isAmount_0 : ab_ckr 4 mX4_isAmount 0 = true := by decide +kernel
theorem oX4_isAmount : ab_ok ab_Nl ab_Sl ab_M ab_G ab_Ws mX4_isAmount := ab_ck_ok (J := 1) rfl kX4_isAmount (fun j h => by
  match j, h with
  | 0, _ => exact kX4_isAmount_0) (by decide +kernel)
theorem kX4_isBit : ab_ck1 mX4_isBit 3106 = true := by decide +kernel
theorem kX4_isBit_0 : ab_ckr 4 mX4_isBit 0 = true := by decide +kernel
theorem oX4_isBit : ab_ok ab_Nl ab_Sl ab_M ab_G ab_Ws mX4_isBit := ab_ck_ok (J := 1) rfl kX4_isBit (fun j h => by
  match j, h with
  | 0, _ => exact kX4_isBit_0) (by decide +kernel)
theorem kX4_isPiece : ab_ck1 mX4_isPiece 2059 = true := by decide +kernel
theorem kX4_isPiece_0 : ab_ckr 4 mX4_isPiece 0 = true := by decide +kernel
theorem oX4_isPiece : ab_ok ab_Nl ab_Sl ab_M ab_G ab_Ws mX4_isPiece := ab_ck_ok (J := 1) rfl kX4_isPiece (fun j h => by
  match j, h with
  | 0, _ => exact kX4_isPiece_0) (by decide +kernel)
theorem kX4_isPerson : ab_ck1 mX4_isPerson 2137 = true := by decide +kernel
theorem kX4_isPerson_0 : ab_ckr 4 mX4_isPerson 0 = true := by decide +kernel
theorem oX4_isPerson : ab_ok ab_Nl ab_Sl ab_M ab_G ab_Ws mX4_isPerson := ab_ck_ok (J := 1) rfl kX4_isPerson (fun j h => by
  match j, h with
  | 0, _ => exact kX4_isPerson_0) (by decide +kernel)
theorem kX4_hasRoomForPiece : ab_ck1 mX4_hasRoomForPiece 2100 = true := by decide +kernel
theorem kX4_hasRoomForPiece_0 : ab_ckr 4 mX4_hasRoomForPiece 0 = true := by decide +kernel
theorem oX4_hasRoomForPiece : ab_ok ab_Nl ab_Sl ab_M ab_G ab_Ws mX4_hasRoomForPiece := ab_ck_ok (J := 1) rfl kX4_hasRoomForPiece (fun j h => by
  match j, h with
  | 0, _ => exact kX4_hasRoomForPiece_0) (by decide +kernel)
theorem kX4_hasRoomForPerson : ab_ck1 mX4_hasRoomForPerson 2116 = true := by decide +kernel
theorem kX4_hasRoomForPerson_0 : ab_ckr 4 mX4_hasRoomForPerson 0 = true := by decide +kernel
theorem oX4_hasRoomForPerson : ab_ok ab_Nl ab_Sl ab_M ab_G ab_Ws mX4_hasRoomForPerson := ab_ck_ok (J := 1) rfl kX4_hasRoomForPerson (fun j h => by
  match j, h with
  | 0, _ => exact kX4_hasRoomForPerson_0) (by decide +kernel)
theorem kX4_isOfKind : ab_ck1 mX4_isOfKind 2078 = true := by decide +kernel
theorem kX4_isOfKind_0 : ab_ckr 4 mX4_isOfKind 0 = true := by decide +kernel
theorem oX4_isOfKind : ab_ok ab_Nl ab_Sl ab_M ab_G ab_Ws mX4_isOfKind := ab_ck_ok (J := 1) rfl kX4_isOfKind (fun j h => by
  match j, h with
  | 0, _ => exact kX4_isOfKind_0) (by decide +kernel)
theorem kX4_take : ab_ck1 mX4_take 2165 = true := by decide +kernel
theorem kX4_take_0 : ab_ckr 4 mX4_take 0 = true := by decide +kernel
theorem kX4_take_1 : ab_ckr 4 mX4_take 1 = true := by decide +kernel
theorem oX4_take : ab_ok ab_Nl ab_Sl ab_M ab_G ab_Ws mX4_take := ab_ck_ok (J := 2) rfl kX4_take (fun j h => by
  match j, h with
  | 0, _ => exact kX4_take_0
  | 1, _ => exact kX4_take_1) (by decide +kernel)
theorem kX4_addPiece : ab_ck1 mX4_addPiece 2104 = true := by decide +kernel
theorem kX4_addPiece_0 : ab_ckr 4 mX4_addPiece 0 = true := by decide +kernel
theorem oX4_addPiece : ab_ok ab_Nl ab_Sl ab_M ab_G ab_Ws mX4_addPiece := ab_ck_ok (J := 1) rfl kX4_addPiece (fun j h => by
  match j, h with
  | 0, _ => exact kX4_addPiece_0) (by decide +kernel)
theorem kX4_addPerson : ab_ck1 mX4_addPerson 2120 = true := by decide +kernel
theorem kX4_addPerson_0 : ab_ckr 4 mX4_addPerson 0 = true := by decide +kernel
theorem oX4_addPerson : ab_ok ab_Nl ab_Sl ab_M ab_G ab_Ws mX4_addPerson := ab_ck_ok (J := 1) rfl kX4_addPerson (fun j h => by
  match j, h with
  | 0, _ => exact kX4_addPerson_0) (by decide +kernel)
theorem kX4_worthOf : ab_ck1 mX4_worthOf 2089 = true := by decide +kernel
theorem kX4_worthOf_0 : ab_ckr 4 mX4_worthOf 0 = true := by decide +kernel
theorem oX4_worthOf : ab_ok ab_Nl ab_Sl ab_M ab_G ab_Ws mX4_worthOf := ab_ck_ok (J := 1) rfl kX4_worthOf (fun j h => by
  match j, h with
  | 0, _ => exact kX4_worthOf_0) (by decide +kernel)
theorem kX4_harmOf : ab_ck1 mX4_harmOf 2085 = true := by decide +kernel
theorem kX4_harmOf_0 : ab_ckr 4 mX4_harmOf 0 = true := by decide +kernel
theorem oX4_harmOf : ab_ok ab_Nl ab_Sl ab_M ab_G ab_Ws mX4_harmOf := ab_ck_ok (J := 1) rfl kX4_harmOf (fun j h => by
  match j, h with
  | 0, _ => exact kX4_harmOf_0) (by decide +kernel)
theorem kX4_worthOfBits : ab_ck1 mX4_worthOfBits 3226 = true := by decide +kernel
theorem kX4_worthOfBits_0 : ab_ckr 4 mX4_worthOfBits 0 = true := by decide +kernel
theorem oX4_worthOfBits : ab_ok ab_Nl ab_Sl ab_M ab_G ab_Ws mX4_worthOfBits := ab_ck_ok (J := 1) rfl kX4_worthOfBits (fun j h => by
  match j, h with
  | 0, _ => exact kX4_worthOfBits_0) (by decide +kernel)
theorem kX4_harmOfBits : ab_ck1 mX4_harmOfBits 3139 = true := by decide +kernel
theorem kX4_harmOfBits_0 : ab_ckr 4 mX4_harmOfBits 0 = true := by decide +kernel
theorem oX4_harmOfBits : ab_ok ab_Nl ab_Sl ab_M ab_G ab_Ws mX4_harmOfBits := ab_ck_ok (J := 1) rfl kX4_harmOfBits (fun j h => by
  match j, h with
  | 0, _ => exact kX4_harmOfBits_0) (by decide +kernel)
theorem kX4_bitsAt : ab_ck1 mX4_bitsAt 2153 = true := by decide +kernel
theorem kX4_bitsAt_0 : ab_ckr 4 mX4_bitsAt 0 = true := by decide +kernel
theorem oX4_bitsAt : ab_ok ab_Nl ab_Sl ab_M ab_G ab_Ws mX4_bitsAt := ab_ck_ok (J := 1) rfl kX4_bitsAt (fun j h => by
  match j, h with
  | 0, _ => exact kX4_bitsAt_0) (by decide +kernel)
theorem kX4_basin : ab_ck1 mX4_basin 3097 = true := by decide +kernel
theorem kX4_basin_0 : ab_ckr 4 mX4_basin 0 = true := by decide +kernel
theorem oX4_basin : ab_ok ab_Nl ab_Sl ab_M ab_G ab_Ws mX4_basin := ab_ck_ok (J := 1) rfl kX4_basin (fun j h => by
  match j, h with
  | 0, _ => exact kX4_basin_0) (by decide +kernel)
theorem kX4_wanting : ab_ck1 mX4_wanting 3075 = true := by decide +kernel
theorem kX4_wanting_0 : ab_ckr 4 mX4_wanting 0 = true := by decide +kernel
theorem oX4_wanting : ab_ok ab_Nl ab_Sl ab_M ab_G ab_Ws mX4_wanting := ab_ck_ok (J := 1) rfl kX4_wanting (fun j h => by
  match j, h with
  | 0, _ => exact kX4_wanting_0) (by decide +kernel)
theorem kX4_grantedTogether : ab_ck1 mX4_grantedTogether 4040 = true := by decide +kernel
theorem kX4_grantedTogether_0 : ab_ckr 4 mX4_grantedTogether 0 = true := by decide +kernel
theorem oX4_grantedTogether : ab_ok ab_Nl ab_Sl ab_M ab_G ab_Ws mX4_grantedTogether := ab_ck_ok (J := 1) rfl kX4_grantedTogether (fun j h => by
  match j, h with
  | 0, _ => exact kX4_grantedTogether_0) (by decide +kernel)
theorem kX4_priceFor : ab_ck1 mX4_priceFor 3067 = true := by decide +kernel
theorem kX4_priceFor_0 : ab_ckr 4 mX4_priceFor 0 = true := by decide +kernel
theorem oX4_priceFor : ab_ok ab_Nl ab_Sl ab_M ab_G ab_Ws mX4_priceFor := ab_ck_ok (J := 1) rfl kX4_priceFor (fun j h => by
  match j, h with
  | 0, _ => exact kX4_priceFor_0) (by decide +kernel)
theorem kX4_priceByCost : ab_ck1 mX4_priceByCost 3071 = true := by decide +kernel
theorem kX4_priceByCost_0 : ab_ckr 4 mX4_priceByCost 0 = true := by decide +kernel
theorem oX4_priceByCost : ab_ok ab_Nl ab_Sl ab_M ab_G ab_Ws mX4_priceByCost := ab_ck_ok (J := 1) rfl kX4_priceByCost (fun j h => by
  match j, h with
  | 0, _ => exact kX4_priceByCost_0) (by decide +kernel)
theorem kX4_bestThrow : ab_ck1 mX4_bestThrow 3148 = true := by decide +kernel
theorem kX4_bestThrow_0 : ab_ckr 4 mX4_bestThrow 0 = true := by decide +kernel
theorem oX4_bestThrow : ab_ok ab_Nl ab_Sl ab_M ab_G ab_Ws mX4_bestThrow := ab_ck_ok (J := 1) rfl kX4_bestThrow (fun j h => by
  match j, h with
  | 0, _ => exact kX4_bestThrow_0) (by decide +kernel)
theorem kX4_greedyFor : ab_ck1 mX4_greedyFor 3093 = true := by decide +kernel
theorem kX4_greedyFor_0 : ab_ckr 4 mX4_greedyFor 0 = true := by decide +kernel
theorem oX4_greedyFor : ab_ok ab_Nl ab_Sl ab_M ab_G ab_Ws mX4_greedyFor := ab_ck_ok (J := 1) rfl kX4_greedyFor (fun j h => by
  match j, h with
  | 0, _ => exact kX4_greedyFor_0) (by decide +kernel)
theorem kX4_greatestUpTo : ab_ck1 mX4_greatestUpTo 3102 = true := by decide +kernel
theorem kX4_greatestUpTo_0 : ab_ckr 4 mX4_greatestUpTo 0 = true := by decide +kernel
theorem oX4_greatestUpTo : ab_ok ab_Nl ab_Sl ab_M ab_G ab_Ws mX4_greatestUpTo := ab_ck_ok (J := 1) rfl kX4_greatestUpTo (fun j h => by
  match j, h with
  | 0, _ => exact kX4_greatestUpTo_0) (by decide +kernel)
theorem kX4_grant : ab_ck1 mX4_grant 3238 = true := by decide +kernel
theorem kX4_grant_0 : ab_ckr 4 mX4_grant 0 = true := by decide +kernel
theorem oX4_grant : ab_ok ab_Nl ab_Sl ab_M ab_G ab_Ws mX4_grant := ab_ck_ok (J := 1) rfl kX4_grant (fun j h => by
  match j, h with
  | 0, _ => exact kX4_grant_0) (by decide +kernel)
theorem kX4_draw : ab_ck1 mX4_draw 4026 = true := by decide +kernel
theorem kX4_draw_0 : ab_ckr 4 mX4_draw 0 = true := by decide +kernel
theorem oX4_draw : ab_ok ab_Nl ab_Sl ab_M ab_G ab_Ws mX4_draw := ab_ck_ok (J := 1) rfl kX4_draw (fun j h => by
  match j, h with
  | 0, _ => exact kX4_draw_0) (by decide +kernel)
theorem kX4_drawDay : ab_ck1 mX4_drawDay 4022 = true := by decide +kernel
theorem kX4_drawDay_0 : ab_ckr 4 mX4_drawDay 0 = true := by decide +kernel
theorem oX4_drawDay : ab_ok ab_Nl ab_Sl ab_M ab_G ab_Ws mX4_drawDay := ab_ck_ok (J := 1) rfl kX4_drawDay (fun j h => by
  match j, h with
  | 0, _ => exact kX4_drawDay_0) (by decide +kernel)
theorem kX4_throwIn : ab_ck1 mX4_throwIn 4035 = true := by decide +kernel
theorem kX4_throwIn_0 : ab_ckr 4 mX4_throwIn 0 = true := by decide +kernel
theorem oX4_throwIn : ab_ok ab_Nl ab_Sl ab_M ab_G ab_Ws mX4_throwIn := ab_ck_ok (J := 1) rfl kX4_throwIn (fun j h => by
  match j, h with
  | 0, _ => exact kX4_throwIn_0) (by decide +kernel)
theorem kX5_init : ab_ck1 mX5_init 1020 = true := by decide +kernel
theorem kX5_init_0 : ab_ckr 5 mX5_init 0 = true := by decide +kernel
theorem oX5_init : ab_ok ab_Nl ab_Sl ab_M ab_G ab_Ws mX5_init := ab_ck_ok (J := 1) rfl kX5_init (fun j h => by
  match j, h with
  | 0, _ => exact kX5_init_0) (by decide +kernel)
theorem kX5_row : ab_ck1 mX5_row 1216 = true := by decide +kernel
theorem kX5_row_0 : ab_ckr 5 mX5_row 0 = true := by decide +kernel
theorem oX5_row : ab_ok ab_Nl ab_Sl ab_M ab_G ab_Ws mX5_row := ab_ck_ok (J := 1) rfl kX5_row (fun j h => by
  match j, h with
  | 0, _ => exact kX5_row_0) (by decide +kernel)
theorem kX5_set : ab_ck1 mX5_set 1237 = true := by decide +kernel
theorem kX5_set_0 : ab_ckr 5 mX5_set 0 = true := by decide +kernel
theorem oX5_set : ab_ok ab_Nl ab_Sl ab_M ab_G ab_Ws mX5_set := ab_ck_ok (J := 1) rfl kX5_set (fun j h => by
  match j, h with
  | 0, _ => exact kX5_set_0) (by decide +kernel)
theorem kX5_copy : ab_ck1 mX5_copy 2026 = true := by decide +kernel
theorem kX5_copy_0 : ab_ckr 5 mX5_copy 0 = true := by decide +kernel
theorem kX5_copy_1 : ab_ckr 5 mX5_copy 1 = true := by decide +kernel
theorem oX5_copy : ab_ok ab_Nl ab_Sl ab_M ab_G ab_Ws mX5_copy := ab_ck_ok (J := 2) rfl kX5_copy (fun j h => by
  match j, h with
  | 0, _ => exact kX5_copy_0
  | 1, _ => exact kX5_copy_1) (by decide +kernel)
theorem kX5_element : ab_ck1 mX5_element 2047 = true := by decide +kernel
theorem kX5_element_0 : ab_ckr 5 mX5_element 0 = true := by decide +kernel
theorem oX5_element : ab_ok ab_Nl ab_Sl ab_M ab_G ab_Ws mX5_element := ab_ck_ok (J := 1) rfl kX5_element (fun j h => by
  match j, h with
  | 0, _ => exact kX5_element_0) (by decide +kernel)
theorem kX5_show : ab_ck1 mX5_show 2055 = true := by decide +kernel
theorem kX5_show_0 : ab_ckr 5 mX5_show 0 = true := by decide +kernel
theorem oX5_show : ab_ok ab_Nl ab_Sl ab_M ab_G ab_Ws mX5_show := ab_ck_ok (J := 1) rfl kX5_show (fun j h => by
  match j, h with
  | 0, _ => exact kX5_show_0) (by decide +kernel)
theorem kX5_holds : ab_ck1 mX5_holds 2067 = true := by decide +kernel
theorem kX5_holds_0 : ab_ckr 5 mX5_holds 0 = true := by decide +kernel
theorem oX5_holds : ab_ok ab_Nl ab_Sl ab_M ab_G ab_Ws mX5_holds := ab_ck_ok (J := 1) rfl kX5_holds (fun j h => by
  match j, h with
  | 0, _ => exact kX5_holds_0) (by decide +kernel)
theorem kX5_says : ab_ck1 mX5_says 2071 = true := by decide +kernel
theorem kX5_says_0 : ab_ckr 5 mX5_says 0 = true := by decide +kernel
theorem kX5_says_1 : ab_ckr 5 mX5_says 1 = true := by decide +kernel
theorem oX5_says : ab_ok ab_Nl ab_Sl ab_M ab_G ab_Ws mX5_says := ab_ck_ok (J := 2) rfl kX5_says (fun j h => by
  match j, h with
  | 0, _ => exact kX5_says_0
  | 1, _ => exact kX5_says_1) (by decide +kernel)
theorem kX5_piece : ab_ck1 mX5_piece 2096 = true := by decide +kernel
theorem kX5_piece_0 : ab_ckr 5 mX5_piece 0 = true := by decide +kernel
theorem oX5_piece : ab_ok ab_Nl ab_Sl ab_M ab_G ab_Ws mX5_piece := ab_ck_ok (J := 1) rfl kX5_piece (fun j h => by
  match j, h with
  | 0, _ => exact kX5_piece_0) (by decide +kernel)
theorem kX5_person : ab_ck1 mX5_person 2109 = true := by decide +kernel
theorem kX5_person_0 : ab_ckr 5 mX5_person 0 = true := by decide +kernel
theorem oX5_person : ab_ok ab_Nl ab_Sl ab_M ab_G ab_Ws mX5_person := ab_ck_ok (J := 1) rfl kX5_person (fun j h => by
  match j, h with
  | 0, _ => exact kX5_person_0) (by decide +kernel)
theorem kX5_cost : ab_ck1 mX5_cost 2125 = true := by decide +kernel
theorem kX5_cost_0 : ab_ckr 5 mX5_cost 0 = true := by decide +kernel
theorem oX5_cost : ab_ok ab_Nl ab_Sl ab_M ab_G ab_Ws mX5_cost := ab_ck_ok (J := 1) rfl kX5_cost (fun j h => by
  match j, h with
  | 0, _ => exact kX5_cost_0) (by decide +kernel)
theorem kX5_rule : ab_ck1 mX5_rule 2129 = true := by decide +kernel
theorem kX5_rule_0 : ab_ckr 5 mX5_rule 0 = true := by decide +kernel
theorem oX5_rule : ab_ok ab_Nl ab_Sl ab_M ab_G ab_Ws mX5_rule := ab_ck_ok (J := 1) rfl kX5_rule (fun j h => by
  match j, h with
  | 0, _ => exact kX5_rule_0) (by decide +kernel)
theorem kX5_tell : ab_ck1 mX5_tell 2133 = true := by decide +kernel
theorem kX5_tell_0 : ab_ckr 5 mX5_tell 0 = true := by decide +kernel
theorem oX5_tell : ab_ok ab_Nl ab_Sl ab_M ab_G ab_Ws mX5_tell := ab_ck_ok (J := 1) rfl kX5_tell (fun j h => by
  match j, h with
  | 0, _ => exact kX5_tell_0) (by decide +kernel)
theorem kX5_pieceOf : ab_ck1 mX5_pieceOf 2145 = true := by decide +kernel
theorem kX5_pieceOf_0 : ab_ckr 5 mX5_pieceOf 0 = true := by decide +kernel
theorem oX5_pieceOf : ab_ok ab_Nl ab_Sl ab_M ab_G ab_Ws mX5_pieceOf := ab_ck_ok (J := 1) rfl kX5_pieceOf (fun j h => by
  match j, h with
  | 0, _ => exact kX5_pieceOf_0) (by decide +kernel)
theorem kX5_personOf : ab_ck1 mX5_personOf 2149 = true := by decide +kernel
theorem kX5_personOf_0 : ab_ckr 5 mX5_personOf 0 = true := by decide +kernel
theorem oX5_personOf : ab_ok ab_Nl ab_Sl ab_M ab_G ab_Ws mX5_personOf := ab_ck_ok (J := 1) rfl kX5_personOf (fun j h => by
  match j, h with
  | 0, _ => exact kX5_personOf_0) (by decide +kernel)
theorem kX5_square : ab_ck1 mX5_square 2157 = true := by decide +kernel
theorem kX5_square_0 : ab_ckr 5 mX5_square 0 = true := by decide +kernel
theorem oX5_square : ab_ok ab_Nl ab_Sl ab_M ab_G ab_Ws mX5_square := ab_ck_ok (J := 1) rfl kX5_square (fun j h => by
  match j, h with
  | 0, _ => exact kX5_square_0) (by decide +kernel)
theorem kX5_fault : ab_ck1 mX5_fault 3059 = true := by decide +kernel
theorem kX5_fault_0 : ab_ckr 5 mX5_fault 0 = true := by decide +kernel
theorem oX5_fault : ab_ok ab_Nl ab_Sl ab_M ab_G ab_Ws mX5_fault := ab_ck_ok (J := 1) rfl kX5_fault (fun j h => by
  match j, h with
  | 0, _ => exact kX5_fault_0) (by decide +kernel)
theorem kX5_price : ab_ck1 mX5_price 3063 = true := by decide +kernel
theorem kX5_price_0 : ab_ckr 5 mX5_price 0 = true := by decide +kernel
theorem oX5_price : ab_ok ab_Nl ab_Sl ab_M ab_G ab_Ws mX5_price := ab_ck_ok (J := 1) rfl kX5_price (fun j h => by
  match j, h with
  | 0, _ => exact kX5_price_0) (by decide +kernel)
theorem kX5_change : ab_ck1 mX5_change 3079 = true := by decide +kernel
theorem kX5_change_0 : ab_ckr 5 mX5_change 0 = true := by decide +kernel
theorem oX5_change : ab_ok ab_Nl ab_Sl ab_M ab_G ab_Ws mX5_change := ab_ck_ok (J := 1) rfl kX5_change (fun j h => by
  match j, h with
  | 0, _ => exact kX5_change_0) (by decide +kernel)
theorem kX5_harm : ab_ck1 mX5_harm 3131 = true := by decide +kernel
theorem kX5_harm_0 : ab_ckr 5 mX5_harm 0 = true := by decide +kernel
theorem oX5_harm : ab_ok ab_Nl ab_Sl ab_M ab_G ab_Ws mX5_harm := ab_ck_ok (J := 1) rfl kX5_harm (fun j h => by
  match j, h with
  | 0, _ => exact kX5_harm_0) (by decide +kernel)
theorem kX5_best : ab_ck1 mX5_best 3144 = true := by decide +kernel
theorem kX5_best_0 : ab_ckr 5 mX5_best 0 = true := by decide +kernel
theorem oX5_best : ab_ok ab_Nl ab_Sl ab_M ab_G ab_Ws mX5_best := ab_ck_ok (J := 1) rfl kX5_best (fun j h => by
  match j, h with
  | 0, _ => exact kX5_best_0) (by decide +kernel)
theorem kX5_fails : ab_ck1 mX5_fails 3153 = true := by decide +kernel
theorem kX5_fails_0 : ab_ckr 5 mX5_fails 0 = true := by decide +kernel
theorem kX5_fails_1 : ab_ckr 5 mX5_fails 1 = true := by decide +kernel
theorem oX5_fails : ab_ok ab_Nl ab_Sl ab_M ab_G ab_Ws mX5_fails := ab_ck_ok (J := 2) rfl kX5_fails (fun j h => by
  match j, h with
  | 0, _ => exact kX5_fails_0
  | 1, _ => exact kX5_fails_1) (by decide +kernel)
theorem kX5_amounts : ab_ck1 mX5_amounts 3167 = true := by decide +kernel
theorem kX5_amounts_0 : ab_ckr 5 mX5_amounts 0 = true := by decide +kernel
theorem oX5_amounts : ab_ok ab_Nl ab_Sl ab_M ab_G ab_Ws mX5_amounts := ab_ck_ok (J := 1) rfl kX5_amounts (fun j h => by
  match j, h with
  | 0, _ => exact kX5_amounts_0) (by decide +kernel)
theorem kX5_run : ab_ck1 mX5_run 3175 = true := by decide +kernel
theorem kX5_run_0 : ab_ckr 5 mX5_run 0 = true := by decide +kernel
theorem oX5_run : ab_ok ab_Nl ab_Sl ab_M ab_G ab_Ws mX5_run := ab_ck_ok (J := 1) rfl kX5_run (fun j h => by
  match j, h with
  | 0, _ => exact kX5_run_0) (by decide +kernel)
theorem kX5_rules : ab_ck1 mX5_rules 3179 = true := by decide +kernel
theorem kX5_rules_0 : ab_ckr 5 mX5_rules 0 = true := by decide +kernel
theorem kX5_rules_1 : ab_ckr 5 mX5_rules 1 = true := by decide +kernel
theorem oX5_rules : ab_ok ab_Nl ab_Sl ab_M ab_G ab_Ws mX5_rules := ab_ck_ok (J := 2) rfl kX5_rules (fun j h => by
  match j, h with
  | 0, _ => exact kX5_rules_0
  | 1, _ => exact kX5_rules_1) (by decide +kernel)
theorem kX5_costs : ab_ck1 mX5_costs 3195 = true := by decide +kernel
theorem kX5_costs_0 : ab_ckr 5 mX5_costs 0 = true := by decide +kernel
theorem kX5_costs_1 : ab_ckr 5 mX5_costs 1 = true := by decide +kernel
theorem oX5_costs : ab_ok ab_Nl ab_Sl ab_M ab_G ab_Ws mX5_costs := ab_ck_ok (J := 2) rfl kX5_costs (fun j h => by
  match j, h with
  | 0, _ => exact kX5_costs_0
  | 1, _ => exact kX5_costs_1) (by decide +kernel)
theorem kX5_dear : ab_ck1 mX5_dear 3208 = true := by decide +kernel
theorem kX5_dear_0 : ab_ckr 5 mX5_dear 0 = true := by decide +kernel
theorem oX5_dear : ab_ok ab_Nl ab_Sl ab_M ab_G ab_Ws mX5_dear := ab_ck_ok (J := 1) rfl kX5_dear (fun j h => by
  match j, h with
  | 0, _ => exact kX5_dear_0) (by decide +kernel)
theorem kX5_rich : ab_ck1 mX5_rich 3222 = true := by decide +kernel
theorem kX5_rich_0 : ab_ckr 5 mX5_rich 0 = true := by decide +kernel
theorem oX5_rich : ab_ok ab_Nl ab_Sl ab_M ab_G ab_Ws mX5_rich := ab_ck_ok (J := 1) rfl kX5_rich (fun j h => by
  match j, h with
  | 0, _ => exact kX5_rich_0) (by decide +kernel)
theorem kX5_judge : ab_ck1 mX5_judge 3230 = true := by decide +kernel
theorem kX5_judge_0 : ab_ckr 5 mX5_judge 0 = true := by decide +kernel
theorem oX5_judge : ab_ok ab_Nl ab_Sl ab_M ab_G ab_Ws mX5_judge := ab_ck_ok (J := 1) rfl kX5_judge (fun j h => by
  match j, h with
  | 0, _ => exact kX5_judge_0) (by decide +kernel)
theorem kX5_behind : ab_ck1 mX5_behind 4002 = true := by decide +kernel
theorem kX5_behind_0 : ab_ckr 5 mX5_behind 0 = true := by decide +kernel
theorem kX5_behind_1 : ab_ckr 5 mX5_behind 1 = true := by decide +kernel
theorem oX5_behind : ab_ok ab_Nl ab_Sl ab_M ab_G ab_Ws mX5_behind := ab_ck_ok (J := 2) rfl kX5_behind (fun j h => by
  match j, h with
  | 0, _ => exact kX5_behind_0
  | 1, _ => exact kX5_behind_1) (by decide +kernel)
theorem kX5_done : ab_ck1 mX5_done 4006 = true := by decide +kernel
theorem kX5_done_0 : ab_ckr 5 mX5_done 0 = true := by decide +kernel
theorem oX5_done : ab_ok ab_Nl ab_Sl ab_M ab_G ab_Ws mX5_done := ab_ck_ok (J := 1) rfl kX5_done (fun j h => by
  match j, h with
  | 0, _ => exact kX5_done_0) (by decide +kernel)
theorem kX5_cast : ab_ck1 mX5_cast 4010 = true := by decide +kernel
theorem kX5_cast_0 : ab_ckr 5 mX5_cast 0 = true := by decide +kernel
theorem oX5_cast : ab_ok ab_Nl ab_Sl ab_M ab_G ab_Ws mX5_cast := ab_ck_ok (J := 1) rfl kX5_cast (fun j h => by
  match j, h with
  | 0, _ => exact kX5_cast_0) (by decide +kernel)
theorem kX5_back : ab_ck1 mX5_back 4014 = true := by decide +kernel
theorem kX5_back_0 : ab_ckr 5 mX5_back 0 = true := by decide +kernel
theorem oX5_back : ab_ok ab_Nl ab_Sl ab_M ab_G ab_Ws mX5_back := ab_ck_ok (J := 1) rfl kX5_back (fun j h => by
  match j, h with
  | 0, _ => exact kX5_back_0) (by decide +kernel)
theorem kX5_days : ab_ck1 mX5_days 4018 = true := by decide +kernel
theorem kX5_days_0 : ab_ckr 5 mX5_days 0 = true := by decide +kernel
theorem oX5_days : ab_ok ab_Nl ab_Sl ab_M ab_G ab_Ws mX5_days := ab_ck_ok (J := 1) rfl kX5_days (fun j h => by
  match j, h with
  | 0, _ => exact kX5_days_0) (by decide +kernel)
theorem kX5_seed : ab_ck1 mX5_seed 4044 = true := by decide +kernel
theorem kX5_seed_0 : ab_ckr 5 mX5_seed 0 = true := by decide +kernel
theorem oX5_seed : ab_ok ab_Nl ab_Sl ab_M ab_G ab_Ws mX5_seed := ab_ck_ok (J := 1) rfl kX5_seed (fun j h => by
  match j, h with
  | 0, _ => exact kX5_seed_0) (by decide +kernel)
theorem kX5_act : ab_ck1 mX5_act 4048 = true := by decide +kernel
theorem kX5_act_0 : ab_ckr 5 mX5_act 0 = true := by decide +kernel
theorem oX5_act : ab_ok ab_Nl ab_Sl ab_M ab_G ab_Ws mX5_act := ab_ck_ok (J := 1) rfl kX5_act (fun j h => by
  match j, h with
  | 0, _ => exact kX5_act_0) (by decide +kernel)
theorem kX5_trace : ab_ck1 mX5_trace 4074 = true := by decide +kernel
theorem kX5_trace_0 : ab_ckr 5 mX5_trace 0 = true := by decide +kernel
theorem oX5_trace : ab_ok ab_Nl ab_Sl ab_M ab_G ab_Ws mX5_trace := ab_ck_ok (J := 1) rfl kX5_trace (fun j h => by
  match j, h with
  | 0, _ => exact kX5_trace_0) (by decide +kernel)
theorem kX5_image : ab_ck1 mX5_image 4082 = true := by decide +kernel
theorem kX5_image_0 : ab_ckr 5 mX5_image 0 = true := by decide +kernel
theorem oX5_image : ab_ok ab_Nl ab_Sl ab_M ab_G ab_Ws mX5_image := ab_ck_ok (J := 1) rfl kX5_image (fun j h => by
  match j, h with
  | 0, _ => exact kX5_image_0) (by decide +kernel)
theorem kX5_restore : ab_ck1 mX5_restore 4086 = true := by decide +kernel
theorem kX5_restore_0 : ab_ckr 5 mX5_restore 0 = true := by decide +kernel
theorem oX5_restore : ab_ok ab_Nl ab_Sl ab_M ab_G ab_Ws mX5_restore := ab_ck_ok (J := 1) rfl kX5_restore (fun j h => by
  match j, h with
  | 0, _ => exact kX5_restore_0) (by decide +kernel)
theorem kX5_status : ab_ck1 mX5_status 4090 = true := by decide +kernel
theorem kX5_status_0 : ab_ckr 5 mX5_status 0 = true := by decide +kernel
theorem kX5_status_1 : ab_ckr 5 mX5_status 1 = true := by decide +kernel
theorem oX5_status : ab_ok ab_Nl ab_Sl ab_M ab_G ab_Ws mX5_status := ab_ck_ok (J := 2) rfl kX5_status (fun j h => by
  match j, h with
  | 0, _ => exact kX5_status_0
  | 1, _ => exact kX5_status_1) (by decide +kernel)
theorem kX5_isFrom : ab_ck1 mX5_isFrom 1226 = true := by decide +kernel
theorem kX5_isFrom_0 : ab_ckr 5 mX5_isFrom 0 = true := by decide +kernel
theorem oX5_isFrom : ab_ok ab_Nl ab_Sl ab_M ab_G ab_Ws mX5_isFrom := ab_ck_ok (J := 1) rfl kX5_isFrom (fun j h => by
  match j, h with
  | 0, _ => exact kX5_isFrom_0) (by decide +kernel)
theorem kX5_isOneOfTwo : ab_ck1 mX5_isOneOfTwo 3082 = true := by decide +kernel
theorem kX5_isOneOfTwo_0 : ab_ckr 5 mX5_isOneOfTwo 0 = true := by decide +kernel
theorem oX5_isOneOfTwo : ab_ok ab_Nl ab_Sl ab_M ab_G ab_Ws mX5_isOneOfTwo := ab_ck_ok (J := 1) rfl kX5_isOneOfTwo (fun j h => by
  match j, h with
  | 0, _ => exact kX5_isOneOfTwo_0) (by decide +kernel)
theorem kX5_isShelf : ab_ck1 mX5_isShelf 1219 = true := by decide +kernel
theorem kX5_isShelf_0 : ab_ckr 5 mX5_isShelf 0 = true := by decide +kernel
theorem oX5_isShelf : ab_ok ab_Nl ab_Sl ab_M ab_G ab_Ws mX5_isShelf := ab_ck_ok (J := 1) rfl kX5_isShelf (fun j h => by
  match j, h with
  | 0, _ => exact kX5_isShelf_0) (by decide +kernel)
theorem kX5_refuse : ab_ck1 mX5_refuse 1223 = true := by decide +kernel
theorem kX5_refuse_0 : ab_ckr 5 mX5_refuse 0 = true := by decide +kernel
theorem oX5_refuse : ab_ok ab_Nl ab_Sl ab_M ab_G ab_Ws mX5_refuse := ab_ck_ok (J := 1) rfl kX5_refuse (fun j h => by
  match j, h with
  | 0, _ => exact kX5_refuse_0) (by decide +kernel)
theorem kX5_whyNoRow : ab_ck1 mX5_whyNoRow 2001 = true := by decide +kernel
theorem kX5_whyNoRow_0 : ab_ckr 5 mX5_whyNoRow 0 = true := by decide +kernel
theorem oX5_whyNoRow : ab_ok ab_Nl ab_Sl ab_M ab_G ab_Ws mX5_whyNoRow := ab_ck_ok (J := 1) rfl kX5_whyNoRow (fun j h => by
  match j, h with
  | 0, _ => exact kX5_whyNoRow_0) (by decide +kernel)
theorem kX5_whyNoTwos : ab_ck1 mX5_whyNoTwos 3183 = true := by decide +kernel
theorem kX5_whyNoTwos_0 : ab_ckr 5 mX5_whyNoTwos 0 = true := by decide +kernel
theorem oX5_whyNoTwos : ab_ok ab_Nl ab_Sl ab_M ab_G ab_Ws mX5_whyNoTwos := ab_ck_ok (J := 1) rfl kX5_whyNoTwos (fun j h => by
  match j, h with
  | 0, _ => exact kX5_whyNoTwos_0) (by decide +kernel)
theorem kX5_tellOne : ab_ck1 mX5_tellOne 2141 = true := by decide +kernel
theorem kX5_tellOne_0 : ab_ckr 5 mX5_tellOne 0 = true := by decide +kernel
theorem oX5_tellOne : ab_ok ab_Nl ab_Sl ab_M ab_G ab_Ws mX5_tellOne := ab_ck_ok (J := 1) rfl kX5_tellOne (fun j h => by
  match j, h with
  | 0, _ => exact kX5_tellOne_0) (by decide +kernel)
theorem kX5_throwBy : ab_ck1 mX5_throwBy 3135 = true := by decide +kernel
theorem kX5_throwBy_0 : ab_ckr 5 mX5_throwBy 0 = true := by decide +kernel
theorem oX5_throwBy : ab_ok ab_Nl ab_Sl ab_M ab_G ab_Ws mX5_throwBy := ab_ck_ok (J := 1) rfl kX5_throwBy (fun j h => by
  match j, h with
  | 0, _ => exact kX5_throwBy_0) (by decide +kernel)
theorem kX5_draftDay : ab_ck1 mX5_draftDay 3234 = true := by decide +kernel
theorem kX5_draftDay_0 : ab_ckr 5 mX5_draftDay 0 = true := by decide +kernel
theorem oX5_draftDay : ab_ok ab_Nl ab_Sl ab_M ab_G ab_Ws mX5_draftDay := ab_ck_ok (J := 1) rfl kX5_draftDay (fun j h => by
  match j, h with
  | 0, _ => exact kX5_draftDay_0) (by decide +kernel)
theorem kX5_areAllThere : ab_ck1 mX5_areAllThere 3199 = true := by decide +kernel
theorem kX5_areAllThere_0 : ab_ckr 5 mX5_areAllThere 0 = true := by decide +kernel
theorem oX5_areAllThere : ab_ok ab_Nl ab_Sl ab_M ab_G ab_Ws mX5_areAllThere := ab_ck_ok (J := 1) rfl kX5_areAllThere (fun j h => by
  match j, h with
  | 0, _ => exact kX5_areAllThere_0) (by decide +kernel)
theorem kX5_isCost : ab_ck1 mX5_isCost 3203 = true := by decide +kernel
theorem kX5_isCost_0 : ab_ckr 5 mX5_isCost 0 = true := by decide +kernel
theorem oX5_isCost : ab_ok ab_Nl ab_Sl ab_M ab_G ab_Ws mX5_isCost := ab_ck_ok (J := 1) rfl kX5_isCost (fun j h => by
  match j, h with
  | 0, _ => exact kX5_isCost_0) (by decide +kernel)
theorem kX5_dearest : ab_ck1 mX5_dearest 3212 = true := by decide +kernel
theorem kX5_dearest_0 : ab_ckr 5 mX5_dearest 0 = true := by decide +kernel
theorem oX5_dearest : ab_ok ab_Nl ab_Sl ab_M ab_G ab_Ws mX5_dearest := ab_ck_ok (J := 1) rfl kX5_dearest (fun j h => by
  match j, h with
  | 0, _ => exact kX5_dearest_0) (by decide +kernel)
theorem kX5_crowd : ab_ck1 mX5_crowd 3217 = true := by decide +kernel
theorem kX5_crowd_0 : ab_ckr 5 mX5_crowd 0 = true := by decide +kernel
theorem oX5_crowd : ab_ok ab_Nl ab_Sl ab_M ab_G ab_Ws mX5_crowd := ab_ck_ok (J := 1) rfl kX5_crowd (fun j h => by
  match j, h with
  | 0, _ => exact kX5_crowd_0) (by decide +kernel)
theorem kX6_init : ab_ck1 mX6_init 4095 = true := by decide +kernel
theorem kX6_init_0 : ab_ckr 6 mX6_init 0 = true := by decide +kernel
theorem kX6_init_1 : ab_ckr 6 mX6_init 1 = true := by decide +kernel
theorem kX6_init_2 : ab_ckr 6 mX6_init 2 = true := by decide +kernel
theorem kX6_init_3 : ab_ckr 6 mX6_init 3 = true := by decide +kernel
theorem kX6_init_4 : ab_ckr 6 mX6_init 4 = true := by decide +kernel
theorem oX6_init : ab_ok ab_Nl ab_Sl ab_M ab_G ab_Ws mX6_init := ab_ck_ok (J := 5) rfl kX6_init (fun j h => by
  match j, h with
  | 0, _ => exact kX6_init_0
  | 1, _ => exact kX6_init_1
  | 2, _ => exact kX6_init_2
  | 3, _ => exact kX6_init_3
  | 4, _ => exact kX6_init_4) (by decide +kernel)
theorem kX6_no : ab_ck1 mX6_no 5016 = true := by decide +kernel
theorem kX6_no_0 : ab_ckr 6 mX6_no 0 = true := by decide +kernel
theorem oX6_no : ab_ok ab_Nl ab_Sl ab_M ab_G ab_Ws mX6_no := ab_ck_ok (J := 1) rfl kX6_no (fun j h => by
  match j, h with
  | 0, _ => exact kX6_no_0) (by decide +kernel)
theorem kX6_noTen : ab_ck1 mX6_noTen 5156 = true := by decide +kernel
theorem kX6_noTen_0 : ab_ckr 6 mX6_noTen 0 = true := by decide +kernel
theorem oX6_noTen : ab_ok ab_Nl ab_Sl ab_M ab_G ab_Ws mX6_noTen := ab_ck_ok (J := 1) rfl kX6_noTen (fun j h => by
  match j, h with
  | 0, _ => exact kX6_noTen_0) (by decide +kernel)
theorem kX6_isShelf : ab_ck1 mX6_isShelf 5012 = true := by decide +kernel
theorem kX6_isShelf_0 : ab_ckr 6 mX6_isShelf 0 = true := by decide +kernel
theorem oX6_isShelf : ab_ok ab_Nl ab_Sl ab_M ab_G ab_Ws mX6_isShelf := ab_ck_ok (J := 1) rfl kX6_isShelf (fun j h => by
  match j, h with
  | 0, _ => exact kX6_isShelf_0) (by decide +kernel)
theorem kX6_isPiece : ab_ck1 mX6_isPiece 5036 = true := by decide +kernel
theorem kX6_isPiece_0 : ab_ckr 6 mX6_isPiece 0 = true := by decide +kernel
theorem oX6_isPiece : ab_ok ab_Nl ab_Sl ab_M ab_G ab_Ws mX6_isPiece := ab_ck_ok (J := 1) rfl kX6_isPiece (fun j h => by
  match j, h with
  | 0, _ => exact kX6_isPiece_0) (by decide +kernel)
theorem kX6_isOne : ab_ck1 mX6_isOne 5088 = true := by decide +kernel
theorem kX6_isOne_0 : ab_ckr 6 mX6_isOne 0 = true := by decide +kernel
theorem oX6_isOne : ab_ok ab_Nl ab_Sl ab_M ab_G ab_Ws mX6_isOne := ab_ck_ok (J := 1) rfl kX6_isOne (fun j h => by
  match j, h with
  | 0, _ => exact kX6_isOne_0) (by decide +kernel)
theorem kX6_isFrom : ab_ck1 mX6_isFrom 5060 = true := by decide +kernel
theorem kX6_isFrom_0 : ab_ckr 6 mX6_isFrom 0 = true := by decide +kernel
theorem oX6_isFrom : ab_ok ab_Nl ab_Sl ab_M ab_G ab_Ws mX6_isFrom := ab_ck_ok (J := 1) rfl kX6_isFrom (fun j h => by
  match j, h with
  | 0, _ => exact kX6_isFrom_0) (by decide +kernel)
theorem kX6_row : ab_ck1 mX6_row 5008 = true := by decide +kernel
theorem kX6_row_0 : ab_ckr 6 mX6_row 0 = true := by decide +kernel
theorem oX6_row : ab_ok ab_Nl ab_Sl ab_M ab_G ab_Ws mX6_row := ab_ck_ok (J := 1) rfl kX6_row (fun j h => by
  match j, h with
  | 0, _ => exact kX6_row_0) (by decide +kernel)
theorem kX6_set : ab_ck1 mX6_set 5020 = true := by decide +kernel
theorem kX6_set_0 : ab_ckr 6 mX6_set 0 = true := by decide +kernel
theorem kX6_set_1 : ab_ckr 6 mX6_set 1 = true := by decide +kernel
theorem oX6_set : ab_ok ab_Nl ab_Sl ab_M ab_G ab_Ws mX6_set := ab_ck_ok (J := 2) rfl kX6_set (fun j h => by
  match j, h with
  | 0, _ => exact kX6_set_0
  | 1, _ => exact kX6_set_1) (by decide +kernel)
theorem kX6_copy : ab_ck1 mX6_copy 5024 = true := by decide +kernel
theorem kX6_copy_0 : ab_ckr 6 mX6_copy 0 = true := by decide +kernel
theorem kX6_copy_1 : ab_ckr 6 mX6_copy 1 = true := by decide +kernel
theorem oX6_copy : ab_ok ab_Nl ab_Sl ab_M ab_G ab_Ws mX6_copy := ab_ck_ok (J := 2) rfl kX6_copy (fun j h => by
  match j, h with
  | 0, _ => exact kX6_copy_0
  | 1, _ => exact kX6_copy_1) (by decide +kernel)
theorem kX6_element : ab_ck1 mX6_element 5028 = true := by decide +kernel
theorem kX6_element_0 : ab_ckr 6 mX6_element 0 = true := by decide +kernel
theorem oX6_element : ab_ok ab_Nl ab_Sl ab_M ab_G ab_Ws mX6_element := ab_ck_ok (J := 1) rfl kX6_element (fun j h => by
  match j, h with
  | 0, _ => exact kX6_element_0) (by decide +kernel)
theorem kX6_show : ab_ck1 mX6_show 5032 = true := by decide +kernel
theorem kX6_show_0 : ab_ckr 6 mX6_show 0 = true := by decide +kernel
theorem oX6_show : ab_ok ab_Nl ab_Sl ab_M ab_G ab_Ws mX6_show := ab_ck_ok (J := 1) rfl kX6_show (fun j h => by
  match j, h with
  | 0, _ => exact kX6_show_0) (by decide +kernel)
theorem kX6_holds : ab_ck1 mX6_holds 5040 = true := by decide +kernel
theorem kX6_holds_0 : ab_ckr 6 mX6_holds 0 = true := by decide +kernel
theorem oX6_holds : ab_ok ab_Nl ab_Sl ab_M ab_G ab_Ws mX6_holds := ab_ck_ok (J := 1) rfl kX6_holds (fun j h => by
  match j, h with
  | 0, _ => exact kX6_holds_0) (by decide +kernel)
theorem kX6_says : ab_ck1 mX6_says 5044 = true := by decide +kernel
theorem kX6_says_0 : ab_ckr 6 mX6_says 0 = true := by decide +kernel
theorem kX6_says_1 : ab_ckr 6 mX6_says 1 = true := by decide +kernel
theorem oX6_says : ab_ok ab_Nl ab_Sl ab_M ab_G ab_Ws mX6_says := ab_ck_ok (J := 2) rfl kX6_says (fun j h => by
  match j, h with
  | 0, _ => exact kX6_says_0
  | 1, _ => exact kX6_says_1) (by decide +kernel)
theorem kX6_wanted : ab_ck1 mX6_wanted 5108 = true := by decide +kernel
theorem kX6_wanted_0 : ab_ckr 6 mX6_wanted 0 = true := by decide +kernel
theorem oX6_wanted : ab_ok ab_Nl ab_Sl ab_M ab_G ab_Ws mX6_wanted := ab_ck_ok (J := 1) rfl kX6_wanted (fun j h => by
  match j, h with
  | 0, _ => exact kX6_wanted_0) (by decide +kernel)
theorem kX6_intAt : ab_ck1 mX6_intAt 6000 = true := by decide +kernel
theorem kX6_intAt_0 : ab_ckr 6 mX6_intAt 0 = true := by decide +kernel
theorem oX6_intAt : ab_ok ab_Nl ab_Sl ab_M ab_G ab_Ws mX6_intAt := ab_ck_ok (J := 1) rfl kX6_intAt (fun j h => by
  match j, h with
  | 0, _ => exact kX6_intAt_0) (by decide +kernel)
theorem kX6_worth : ab_ck1 mX6_worth 5052 = true := by decide +kernel
theorem kX6_worth_0 : ab_ckr 6 mX6_worth 0 = true := by decide +kernel
theorem oX6_worth : ab_ok ab_Nl ab_Sl ab_M ab_G ab_Ws mX6_worth := ab_ck_ok (J := 1) rfl kX6_worth (fun j h => by
  match j, h with
  | 0, _ => exact kX6_worth_0) (by decide +kernel)
theorem kX6_harms : ab_ck1 mX6_harms 5048 = true := by decide +kernel
theorem kX6_harms_0 : ab_ckr 6 mX6_harms 0 = true := by decide +kernel
theorem oX6_harms : ab_ok ab_Nl ab_Sl ab_M ab_G ab_Ws mX6_harms := ab_ck_ok (J := 1) rfl kX6_harms (fun j h => by
  match j, h with
  | 0, _ => exact kX6_harms_0) (by decide +kernel)
theorem kX6_addsPiece : ab_ck1 mX6_addsPiece 5064 = true := by decide +kernel
theorem kX6_addsPiece_0 : ab_ckr 6 mX6_addsPiece 0 = true := by decide +kernel
theorem oX6_addsPiece : ab_ok ab_Nl ab_Sl ab_M ab_G ab_Ws mX6_addsPiece := ab_ck_ok (J := 1) rfl kX6_addsPiece (fun j h => by
  match j, h with
  | 0, _ => exact kX6_addsPiece_0) (by decide +kernel)
theorem kX6_addsPerson : ab_ck1 mX6_addsPerson 5072 = true := by decide +kernel
theorem kX6_addsPerson_0 : ab_ckr 6 mX6_addsPerson 0 = true := by decide +kernel
theorem oX6_addsPerson : ab_ok ab_Nl ab_Sl ab_M ab_G ab_Ws mX6_addsPerson := ab_ck_ok (J := 1) rfl kX6_addsPerson (fun j h => by
  match j, h with
  | 0, _ => exact kX6_addsPerson_0) (by decide +kernel)
theorem kX6_piece : ab_ck1 mX6_piece 5056 = true := by decide +kernel
theorem kX6_piece_0 : ab_ckr 6 mX6_piece 0 = true := by decide +kernel
theorem oX6_piece : ab_ok ab_Nl ab_Sl ab_M ab_G ab_Ws mX6_piece := ab_ck_ok (J := 1) rfl kX6_piece (fun j h => by
  match j, h with
  | 0, _ => exact kX6_piece_0) (by decide +kernel)
theorem kX6_person : ab_ck1 mX6_person 5068 = true := by decide +kernel
theorem kX6_person_0 : ab_ckr 6 mX6_person 0 = true := by decide +kernel
theorem oX6_person : ab_ok ab_Nl ab_Sl ab_M ab_G ab_Ws mX6_person := ab_ck_ok (J := 1) rfl kX6_person (fun j h => by
  match j, h with
  | 0, _ => exact kX6_person_0) (by decide +kernel)
theorem kX6_cost : ab_ck1 mX6_cost 5076 = true := by decide +kernel
theorem kX6_cost_0 : ab_ckr 6 mX6_cost 0 = true := by decide +kernel
theorem oX6_cost : ab_ok ab_Nl ab_Sl ab_M ab_G ab_Ws mX6_cost := ab_ck_ok (J := 1) rfl kX6_cost (fun j h => by
  match j, h with
  | 0, _ => exact kX6_cost_0) (by decide +kernel)
theorem kX6_rule : ab_ck1 mX6_rule 5080 = true := by decide +kernel
theorem kX6_rule_0 : ab_ckr 6 mX6_rule 0 = true := by decide +kernel
theorem oX6_rule : ab_ok ab_Nl ab_Sl ab_M ab_G ab_Ws mX6_rule := ab_ck_ok (J := 1) rfl kX6_rule (fun j h => by
  match j, h with
  | 0, _ => exact kX6_rule_0) (by decide +kernel)
theorem kX6_tell : ab_ck1 mX6_tell 5084 = true := by decide +kernel
theorem kX6_tell_0 : ab_ckr 6 mX6_tell 0 = true := by decide +kernel
theorem kX6_tell_1 : ab_ckr 6 mX6_tell 1 = true := by decide +kernel
theorem oX6_tell : ab_ok ab_Nl ab_Sl ab_M ab_G ab_Ws mX6_tell := ab_ck_ok (J := 2) rfl kX6_tell (fun j h => by
  match j, h with
  | 0, _ => exact kX6_tell_0
  | 1, _ => exact kX6_tell_1) (by decide +kernel)
theorem kX6_piecesOf : ab_ck1 mX6_piecesOf 5100 = true := by decide +kernel
theorem kX6_piecesOf_0 : ab_ckr 6 mX6_piecesOf 0 = true := by decide +kernel
theorem oX6_piecesOf : ab_ok ab_Nl ab_Sl ab_M ab_G ab_Ws mX6_piecesOf := ab_ck_ok (J := 1) rfl kX6_piecesOf (fun j h => by
  match j, h with
  | 0, _ => exact kX6_piecesOf_0) (by decide +kernel)
theorem kX6_pieceOf : ab_ck1 mX6_pieceOf 5092 = true := by decide +kernel
theorem kX6_pieceOf_0 : ab_ckr 6 mX6_pieceOf 0 = true := by decide +kernel
theorem oX6_pieceOf : ab_ok ab_Nl ab_Sl ab_M ab_G ab_Ws mX6_pieceOf := ab_ck_ok (J := 1) rfl kX6_pieceOf (fun j h => by
  match j, h with
  | 0, _ => exact kX6_pieceOf_0) (by decide +kernel)
theorem kX6_personOf : ab_ck1 mX6_personOf 5096 = true := by decide +kernel
theorem kX6_personOf_0 : ab_ckr 6 mX6_personOf 0 = true := by decide +kernel
theorem oX6_personOf : ab_ok ab_Nl ab_Sl ab_M ab_G ab_Ws mX6_personOf := ab_ck_ok (J := 1) rfl kX6_personOf (fun j h => by
  match j, h with
  | 0, _ => exact kX6_personOf_0) (by decide +kernel)
theorem kX6_wrong : ab_ck1 mX6_wrong 5128 = true := by decide +kernel
theorem kX6_wrong_0 : ab_ckr 6 mX6_wrong 0 = true := by decide +kernel
theorem oX6_wrong : ab_ok ab_Nl ab_Sl ab_M ab_G ab_Ws mX6_wrong := ab_ck_ok (J := 1) rfl kX6_wrong (fun j h => by
  match j, h with
  | 0, _ => exact kX6_wrong_0) (by decide +kernel)
theorem kX6_stands : ab_ck1 mX6_stands 5124 = true := by decide +kernel
theorem kX6_stands_0 : ab_ckr 6 mX6_stands 0 = true := by decide +kernel
theorem oX6_stands : ab_ok ab_Nl ab_Sl ab_M ab_G ab_Ws mX6_stands := ab_ck_ok (J := 1) rfl kX6_stands (fun j h => by
  match j, h with
  | 0, _ => exact kX6_stands_0) (by decide +kernel)
theorem kX6_word : ab_ck1 mX6_word 5132 = true := by decide +kernel
theorem kX6_word_0 : ab_ckr 6 mX6_word 0 = true := by decide +kernel
theorem kX6_word_1 : ab_ckr 6 mX6_word 1 = true := by decide +kernel
theorem oX6_word : ab_ok ab_Nl ab_Sl ab_M ab_G ab_Ws mX6_word := ab_ck_ok (J := 2) rfl kX6_word (fun j h => by
  match j, h with
  | 0, _ => exact kX6_word_0
  | 1, _ => exact kX6_word_1) (by decide +kernel)
theorem kX6_isDigit : ab_ck1 mX6_isDigit 5140 = true := by decide +kernel
theorem kX6_isDigit_0 : ab_ckr 6 mX6_isDigit 0 = true := by decide +kernel
theorem oX6_isDigit : ab_ok ab_Nl ab_Sl ab_M ab_G ab_Ws mX6_isDigit := ab_ck_ok (J := 1) rfl kX6_isDigit (fun j h => by
  match j, h with
  | 0, _ => exact kX6_isDigit_0) (by decide +kernel)
theorem kX6_reads : ab_ck1 mX6_reads 5136 = true := by decide +kernel
theorem kX6_reads_0 : ab_ckr 6 mX6_reads 0 = true := by decide +kernel
theorem oX6_reads : ab_ok ab_Nl ab_Sl ab_M ab_G ab_Ws mX6_reads := ab_ck_ok (J := 1) rfl kX6_reads (fun j h => by
  match j, h with
  | 0, _ => exact kX6_reads_0) (by decide +kernel)
theorem kX6_isSo : ab_ck1 mX6_isSo 5144 = true := by decide +kernel
theorem kX6_isSo_0 : ab_ckr 6 mX6_isSo 0 = true := by decide +kernel
theorem oX6_isSo : ab_ok ab_Nl ab_Sl ab_M ab_G ab_Ws mX6_isSo := ab_ck_ok (J := 1) rfl kX6_isSo (fun j h => by
  match j, h with
  | 0, _ => exact kX6_isSo_0) (by decide +kernel)
theorem kX6_item : ab_ck1 mX6_item 5120 = true := by decide +kernel
theorem kX6_item_0 : ab_ckr 6 mX6_item 0 = true := by decide +kernel
theorem kX6_item_1 : ab_ckr 6 mX6_item 1 = true := by decide +kernel
theorem kX6_item_2 : ab_ckr 6 mX6_item 2 = true := by decide +kernel
theorem oX6_item : ab_ok ab_Nl ab_Sl ab_M ab_G ab_Ws mX6_item := ab_ck_ok (J := 3) rfl kX6_item (fun j h => by
  match j, h with
  | 0, _ => exact kX6_item_0
  | 1, _ => exact kX6_item_1
  | 2, _ => exact kX6_item_2) (by decide +kernel)
theorem kX6_carries : ab_ck1 mX6_carries 5116 = true := by decide +kernel
theorem kX6_carries_0 : ab_ckr 6 mX6_carries 0 = true := by decide +kernel
theorem oX6_carries : ab_ok ab_Nl ab_Sl ab_M ab_G ab_Ws mX6_carries := ab_ck_ok (J := 1) rfl kX6_carries (fun j h => by
  match j, h with
  | 0, _ => exact kX6_carries_0) (by decide +kernel)
theorem kX6_all : ab_ck1 mX6_all 5112 = true := by decide +kernel
theorem kX6_all_0 : ab_ckr 6 mX6_all 0 = true := by decide +kernel
theorem kX6_all_1 : ab_ckr 6 mX6_all 1 = true := by decide +kernel
theorem oX6_all : ab_ok ab_Nl ab_Sl ab_M ab_G ab_Ws mX6_all := ab_ck_ok (J := 2) rfl kX6_all (fun j h => by
  match j, h with
  | 0, _ => exact kX6_all_0
  | 1, _ => exact kX6_all_1) (by decide +kernel)
theorem kX6_square : ab_ck1 mX6_square 5104 = true := by decide +kernel
theorem kX6_square_0 : ab_ckr 6 mX6_square 0 = true := by decide +kernel
theorem kX6_square_1 : ab_ckr 6 mX6_square 1 = true := by decide +kernel
theorem oX6_square : ab_ok ab_Nl ab_Sl ab_M ab_G ab_Ws mX6_square := ab_ck_ok (J := 2) rfl kX6_square (fun j h => by
  match j, h with
  | 0, _ => exact kX6_square_0
  | 1, _ => exact kX6_square_1) (by decide +kernel)
theorem kX6_fault : ab_ck1 mX6_fault 5148 = true := by decide +kernel
theorem kX6_fault_0 : ab_ckr 6 mX6_fault 0 = true := by decide +kernel
theorem oX6_fault : ab_ok ab_Nl ab_Sl ab_M ab_G ab_Ws mX6_fault := ab_ck_ok (J := 1) rfl kX6_fault (fun j h => by
  match j, h with
  | 0, _ => exact kX6_fault_0) (by decide +kernel)
theorem kX6_many : ab_ck1 mX6_many 5168 = true := by decide +kernel
theorem kX6_many_0 : ab_ckr 6 mX6_many 0 = true := by decide +kernel
theorem oX6_many : ab_ok ab_Nl ab_Sl ab_M ab_G ab_Ws mX6_many := ab_ck_ok (J := 1) rfl kX6_many (fun j h => by
  match j, h with
  | 0, _ => exact kX6_many_0) (by decide +kernel)
theorem kX6_worthOf : ab_ck1 mX6_worthOf 5164 = true := by decide +kernel
theorem kX6_worthOf_0 : ab_ckr 6 mX6_worthOf 0 = true := by decide +kernel
theorem oX6_worthOf : ab_ok ab_Nl ab_Sl ab_M ab_G ab_Ws mX6_worthOf := ab_ck_ok (J := 1) rfl kX6_worthOf (fun j h => by
  match j, h with
  | 0, _ => exact kX6_worthOf_0) (by decide +kernel)
theorem kX6_harmOf : ab_ck1 mX6_harmOf 5172 = true := by decide +kernel
theorem kX6_harmOf_0 : ab_ckr 6 mX6_harmOf 0 = true := by decide +kernel
theorem oX6_harmOf : ab_ok ab_Nl ab_Sl ab_M ab_G ab_Ws mX6_harmOf := ab_ck_ok (J := 1) rfl kX6_harmOf (fun j h => by
  match j, h with
  | 0, _ => exact kX6_harmOf_0) (by decide +kernel)
theorem kX6_tellsBest : ab_ck1 mX6_tellsBest 5160 = true := by decide +kernel
theorem kX6_tellsBest_0 : ab_ckr 6 mX6_tellsBest 0 = true := by decide +kernel
theorem oX6_tellsBest : ab_ok ab_Nl ab_Sl ab_M ab_G ab_Ws mX6_tellsBest := ab_ck_ok (J := 1) rfl kX6_tellsBest (fun j h => by
  match j, h with
  | 0, _ => exact kX6_tellsBest_0) (by decide +kernel)
theorem kX6_greedyFor : ab_ck1 mX6_greedyFor 5176 = true := by decide +kernel
theorem kX6_greedyFor_0 : ab_ckr 6 mX6_greedyFor 0 = true := by decide +kernel
theorem oX6_greedyFor : ab_ok ab_Nl ab_Sl ab_M ab_G ab_Ws mX6_greedyFor := ab_ck_ok (J := 1) rfl kX6_greedyFor (fun j h => by
  match j, h with
  | 0, _ => exact kX6_greedyFor_0) (by decide +kernel)
theorem kX6_changeFor : ab_ck1 mX6_changeFor 5196 = true := by decide +kernel
theorem kX6_changeFor_0 : ab_ckr 6 mX6_changeFor 0 = true := by decide +kernel
theorem oX6_changeFor : ab_ok ab_Nl ab_Sl ab_M ab_G ab_Ws mX6_changeFor := ab_ck_ok (J := 1) rfl kX6_changeFor (fun j h => by
  match j, h with
  | 0, _ => exact kX6_changeFor_0) (by decide +kernel)
theorem kX6_change : ab_ck1 mX6_change 5152 = true := by decide +kernel
theorem kX6_change_0 : ab_ckr 6 mX6_change 0 = true := by decide +kernel
theorem oX6_change : ab_ok ab_Nl ab_Sl ab_M ab_G ab_Ws mX6_change := ab_ck_ok (J := 1) rfl kX6_change (fun j h => by
  match j, h with
  | 0, _ => exact kX6_change_0) (by decide +kernel)
theorem kX6_priceFor : ab_ck1 mX6_priceFor 5184 = true := by decide +kernel
theorem kX6_priceFor_0 : ab_ckr 6 mX6_priceFor 0 = true := by decide +kernel
theorem oX6_priceFor : ab_ok ab_Nl ab_Sl ab_M ab_G ab_Ws mX6_priceFor := ab_ck_ok (J := 1) rfl kX6_priceFor (fun j h => by
  match j, h with
  | 0, _ => exact kX6_priceFor_0) (by decide +kernel)
theorem kX6_price : ab_ck1 mX6_price 5180 = true := by decide +kernel
theorem kX6_price_0 : ab_ckr 6 mX6_price 0 = true := by decide +kernel
theorem oX6_price : ab_ok ab_Nl ab_Sl ab_M ab_G ab_Ws mX6_price := ab_ck_ok (J := 1) rfl kX6_price (fun j h => by
  match j, h with
  | 0, _ => exact kX6_price_0) (by decide +kernel)
theorem kX6_thrown : ab_ck1 mX6_thrown 5192 = true := by decide +kernel
theorem kX6_thrown_0 : ab_ckr 6 mX6_thrown 0 = true := by decide +kernel
theorem oX6_thrown : ab_ok ab_Nl ab_Sl ab_M ab_G ab_Ws mX6_thrown := ab_ck_ok (J := 1) rfl kX6_thrown (fun j h => by
  match j, h with
  | 0, _ => exact kX6_thrown_0) (by decide +kernel)
theorem kX6_tellsThrow : ab_ck1 mX6_tellsThrow 5204 = true := by decide +kernel
theorem kX6_tellsThrow_0 : ab_ckr 6 mX6_tellsThrow 0 = true := by decide +kernel
theorem oX6_tellsThrow : ab_ok ab_Nl ab_Sl ab_M ab_G ab_Ws mX6_tellsThrow := ab_ck_ok (J := 1) rfl kX6_tellsThrow (fun j h => by
  match j, h with
  | 0, _ => exact kX6_tellsThrow_0) (by decide +kernel)
theorem kX6_harm : ab_ck1 mX6_harm 5188 = true := by decide +kernel
theorem kX6_harm_0 : ab_ckr 6 mX6_harm 0 = true := by decide +kernel
theorem oX6_harm : ab_ok ab_Nl ab_Sl ab_M ab_G ab_Ws mX6_harm := ab_ck_ok (J := 1) rfl kX6_harm (fun j h => by
  match j, h with
  | 0, _ => exact kX6_harm_0) (by decide +kernel)
theorem kX6_best : ab_ck1 mX6_best 5200 = true := by decide +kernel
theorem kX6_best_0 : ab_ckr 6 mX6_best 0 = true := by decide +kernel
theorem oX6_best : ab_ok ab_Nl ab_Sl ab_M ab_G ab_Ws mX6_best := ab_ck_ok (J := 1) rfl kX6_best (fun j h => by
  match j, h with
  | 0, _ => exact kX6_best_0) (by decide +kernel)
theorem kX6_fails : ab_ck1 mX6_fails 5208 = true := by decide +kernel
theorem kX6_fails_0 : ab_ckr 6 mX6_fails 0 = true := by decide +kernel
theorem oX6_fails : ab_ok ab_Nl ab_Sl ab_M ab_G ab_Ws mX6_fails := ab_ck_ok (J := 1) rfl kX6_fails (fun j h => by
  match j, h with
  | 0, _ => exact kX6_fails_0) (by decide +kernel)
theorem kX6_manyAmounts : ab_ck1 mX6_manyAmounts 5216 = true := by decide +kernel
theorem kX6_manyAmounts_0 : ab_ckr 6 mX6_manyAmounts 0 = true := by decide +kernel
theorem oX6_manyAmounts : ab_ok ab_Nl ab_Sl ab_M ab_G ab_Ws mX6_manyAmounts := ab_ck_ok (J := 1) rfl kX6_manyAmounts (fun j h => by
  match j, h with
  | 0, _ => exact kX6_manyAmounts_0) (by decide +kernel)
theorem kX6_amounts : ab_ck1 mX6_amounts 5212 = true := by decide +kernel
theorem kX6_amounts_0 : ab_ckr 6 mX6_amounts 0 = true := by decide +kernel
theorem oX6_amounts : ab_ok ab_Nl ab_Sl ab_M ab_G ab_Ws mX6_amounts := ab_ck_ok (J := 1) rfl kX6_amounts (fun j h => by
  match j, h with
  | 0, _ => exact kX6_amounts_0) (by decide +kernel)
theorem kX6_throwsIn : ab_ck1 mX6_throwsIn 5228 = true := by decide +kernel
theorem kX6_throwsIn_0 : ab_ckr 6 mX6_throwsIn 0 = true := by decide +kernel
theorem oX6_throwsIn : ab_ok ab_Nl ab_Sl ab_M ab_G ab_Ws mX6_throwsIn := ab_ck_ok (J := 1) rfl kX6_throwsIn (fun j h => by
  match j, h with
  | 0, _ => exact kX6_throwsIn_0) (by decide +kernel)
theorem kX6_runs : ab_ck1 mX6_runs 5224 = true := by decide +kernel
theorem kX6_runs_0 : ab_ckr 6 mX6_runs 0 = true := by decide +kernel
theorem kX6_runs_1 : ab_ckr 6 mX6_runs 1 = true := by decide +kernel
theorem oX6_runs : ab_ok ab_Nl ab_Sl ab_M ab_G ab_Ws mX6_runs := ab_ck_ok (J := 2) rfl kX6_runs (fun j h => by
  match j, h with
  | 0, _ => exact kX6_runs_0
  | 1, _ => exact kX6_runs_1) (by decide +kernel)
theorem kX6_run : ab_ck1 mX6_run 5220 = true := by decide +kernel
theorem kX6_run_0 : ab_ckr 6 mX6_run 0 = true := by decide +kernel
theorem oX6_run : ab_ok ab_Nl ab_Sl ab_M ab_G ab_Ws mX6_run := ab_ck_ok (J := 1) rfl kX6_run (fun j h => by
  match j, h with
  | 0, _ => exact kX6_run_0) (by decide +kernel)
theorem kX6_barsOf : ab_ck1 mX6_barsOf 5236 = true := by decide +kernel
theorem kX6_barsOf_0 : ab_ckr 6 mX6_barsOf 0 = true := by decide +kernel
theorem oX6_barsOf : ab_ok ab_Nl ab_Sl ab_M ab_G ab_Ws mX6_barsOf := ab_ck_ok (J := 1) rfl kX6_barsOf (fun j h => by
  match j, h with
  | 0, _ => exact kX6_barsOf_0) (by decide +kernel)
theorem kX6_rules : ab_ck1 mX6_rules 5232 = true := by decide +kernel
theorem kX6_rules_0 : ab_ckr 6 mX6_rules 0 = true := by decide +kernel
theorem kX6_rules_1 : ab_ckr 6 mX6_rules 1 = true := by decide +kernel
theorem oX6_rules : ab_ok ab_Nl ab_Sl ab_M ab_G ab_Ws mX6_rules := ab_ck_ok (J := 2) rfl kX6_rules (fun j h => by
  match j, h with
  | 0, _ => exact kX6_rules_0
  | 1, _ => exact kX6_rules_1) (by decide +kernel)
theorem kX6_costs : ab_ck1 mX6_costs 6004 = true := by decide +kernel
theorem kX6_costs_0 : ab_ckr 6 mX6_costs 0 = true := by decide +kernel
theorem kX6_costs_1 : ab_ckr 6 mX6_costs 1 = true := by decide +kernel
theorem oX6_costs : ab_ok ab_Nl ab_Sl ab_M ab_G ab_Ws mX6_costs := ab_ck_ok (J := 2) rfl kX6_costs (fun j h => by
  match j, h with
  | 0, _ => exact kX6_costs_0
  | 1, _ => exact kX6_costs_1) (by decide +kernel)
theorem kX6_dearest : ab_ck1 mX6_dearest 6012 = true := by decide +kernel
theorem kX6_dearest_0 : ab_ckr 6 mX6_dearest 0 = true := by decide +kernel
theorem oX6_dearest : ab_ok ab_Nl ab_Sl ab_M ab_G ab_Ws mX6_dearest := ab_ck_ok (J := 1) rfl kX6_dearest (fun j h => by
  match j, h with
  | 0, _ => exact kX6_dearest_0) (by decide +kernel)
theorem kX6_wanting : ab_ck1 mX6_wanting 6016 = true := by decide +kernel
theorem kX6_wanting_0 : ab_ckr 6 mX6_wanting 0 = true := by decide +kernel
theorem oX6_wanting : ab_ok ab_Nl ab_Sl ab_M ab_G ab_Ws mX6_wanting := ab_ck_ok (J := 1) rfl kX6_wanting (fun j h => by
  match j, h with
  | 0, _ => exact kX6_wanting_0) (by decide +kernel)
theorem kX6_dear : ab_ck1 mX6_dear 6008 = true := by decide +kernel
theorem kX6_dear_0 : ab_ckr 6 mX6_dear 0 = true := by decide +kernel
theorem oX6_dear : ab_ok ab_Nl ab_Sl ab_M ab_G ab_Ws mX6_dear := ab_ck_ok (J := 1) rfl kX6_dear (fun j h => by
  match j, h with
  | 0, _ => exact kX6_dear_0) (by decide +kernel)
theorem kX6_rich : ab_ck1 mX6_rich 6020 = true := by decide +kernel
theorem kX6_rich_0 : ab_ckr 6 mX6_rich 0 = true := by decide +kernel
theorem oX6_rich : ab_ok ab_Nl ab_Sl ab_M ab_G ab_Ws mX6_rich := ab_ck_ok (J := 1) rfl kX6_rich (fun j h => by
  match j, h with
  | 0, _ => exact kX6_rich_0) (by decide +kernel)
theorem kX6_goes : ab_ck1 mX6_goes 6028 = true := by decide +kernel
theorem kX6_goes_0 : ab_ckr 6 mX6_goes 0 = true := by decide +kernel
theorem kX6_goes_1 : ab_ckr 6 mX6_goes 1 = true := by decide +kernel
theorem oX6_goes : ab_ok ab_Nl ab_Sl ab_M ab_G ab_Ws mX6_goes := ab_ck_ok (J := 2) rfl kX6_goes (fun j h => by
  match j, h with
  | 0, _ => exact kX6_goes_0
  | 1, _ => exact kX6_goes_1) (by decide +kernel)
theorem kX6_judge : ab_ck1 mX6_judge 6024 = true := by decide +kernel
theorem kX6_judge_0 : ab_ckr 6 mX6_judge 0 = true := by decide +kernel
theorem oX6_judge : ab_ok ab_Nl ab_Sl ab_M ab_G ab_Ws mX6_judge := ab_ck_ok (J := 1) rfl kX6_judge (fun j h => by
  match j, h with
  | 0, _ => exact kX6_judge_0) (by decide +kernel)
theorem kX6_behind : ab_ck1 mX6_behind 6032 = true := by decide +kernel
theorem kX6_behind_0 : ab_ckr 6 mX6_behind 0 = true := by decide +kernel
theorem oX6_behind : ab_ok ab_Nl ab_Sl ab_M ab_G ab_Ws mX6_behind := ab_ck_ok (J := 1) rfl kX6_behind (fun j h => by
  match j, h with
  | 0, _ => exact kX6_behind_0) (by decide +kernel)
theorem kX6_done : ab_ck1 mX6_done 6036 = true := by decide +kernel
theorem kX6_done_0 : ab_ckr 6 mX6_done 0 = true := by decide +kernel
theorem oX6_done : ab_ok ab_Nl ab_Sl ab_M ab_G ab_Ws mX6_done := ab_ck_ok (J := 1) rfl kX6_done (fun j h => by
  match j, h with
  | 0, _ => exact kX6_done_0) (by decide +kernel)
theorem kX6_cast : ab_ck1 mX6_cast 6040 = true := by decide +kernel
theorem kX6_cast_0 : ab_ckr 6 mX6_cast 0 = true := by decide +kernel
theorem oX6_cast : ab_ok ab_Nl ab_Sl ab_M ab_G ab_Ws mX6_cast := ab_ck_ok (J := 1) rfl kX6_cast (fun j h => by
  match j, h with
  | 0, _ => exact kX6_cast_0) (by decide +kernel)
theorem kX6_back : ab_ck1 mX6_back 6044 = true := by decide +kernel
theorem kX6_back_0 : ab_ckr 6 mX6_back 0 = true := by decide +kernel
theorem oX6_back : ab_ok ab_Nl ab_Sl ab_M ab_G ab_Ws mX6_back := ab_ck_ok (J := 1) rfl kX6_back (fun j h => by
  match j, h with
  | 0, _ => exact kX6_back_0) (by decide +kernel)
theorem kX6_draw : ab_ck1 mX6_draw 6056 = true := by decide +kernel
theorem kX6_draw_0 : ab_ckr 6 mX6_draw 0 = true := by decide +kernel
theorem oX6_draw : ab_ok ab_Nl ab_Sl ab_M ab_G ab_Ws mX6_draw := ab_ck_ok (J := 1) rfl kX6_draw (fun j h => by
  match j, h with
  | 0, _ => exact kX6_draw_0) (by decide +kernel)
theorem kX6_day : ab_ck1 mX6_day 6052 = true := by decide +kernel
theorem kX6_day_0 : ab_ckr 6 mX6_day 0 = true := by decide +kernel
theorem kX6_day_1 : ab_ckr 6 mX6_day 1 = true := by decide +kernel
theorem oX6_day : ab_ok ab_Nl ab_Sl ab_M ab_G ab_Ws mX6_day := ab_ck_ok (J := 2) rfl kX6_day (fun j h => by
  match j, h with
  | 0, _ => exact kX6_day_0
  | 1, _ => exact kX6_day_1) (by decide +kernel)
theorem kX6_allGranted : ab_ck1 mX6_allGranted 6061 = true := by decide +kernel
theorem kX6_allGranted_0 : ab_ckr 6 mX6_allGranted 0 = true := by decide +kernel
theorem oX6_allGranted : ab_ok ab_Nl ab_Sl ab_M ab_G ab_Ws mX6_allGranted := ab_ck_ok (J := 1) rfl kX6_allGranted (fun j h => by
  match j, h with
  | 0, _ => exact kX6_allGranted_0) (by decide +kernel)
theorem kX6_days : ab_ck1 mX6_days 6048 = true := by decide +kernel
theorem kX6_days_0 : ab_ckr 6 mX6_days 0 = true := by decide +kernel
theorem oX6_days : ab_ok ab_Nl ab_Sl ab_M ab_G ab_Ws mX6_days := ab_ck_ok (J := 1) rfl kX6_days (fun j h => by
  match j, h with
  | 0, _ => exact kX6_days_0) (by decide +kernel)
theorem kX6_seed : ab_ck1 mX6_seed 6065 = true := by decide +kernel
theorem kX6_seed_0 : ab_ckr 6 mX6_seed 0 = true := by decide +kernel
theorem oX6_seed : ab_ok ab_Nl ab_Sl ab_M ab_G ab_Ws mX6_seed := ab_ck_ok (J := 1) rfl kX6_seed (fun j h => by
  match j, h with
  | 0, _ => exact kX6_seed_0) (by decide +kernel)
theorem kX6_body : ab_ck1 mX6_body 6077 = true := by decide +kernel
theorem kX6_body_0 : ab_ckr 6 mX6_body 0 = true := by decide +kernel
theorem oX6_body : ab_ok ab_Nl ab_Sl ab_M ab_G ab_Ws mX6_body := ab_ck_ok (J := 1) rfl kX6_body (fun j h => by
  match j, h with
  | 0, _ => exact kX6_body_0) (by decide +kernel)
theorem kX6_falling : ab_ck1 mX6_falling 6073 = true := by decide +kernel
theorem kX6_falling_0 : ab_ckr 6 mX6_falling 0 = true := by decide +kernel
theorem kX6_falling_1 : ab_ckr 6 mX6_falling 1 = true := by decide +kernel
theorem oX6_falling : ab_ok ab_Nl ab_Sl ab_M ab_G ab_Ws mX6_falling := ab_ck_ok (J := 2) rfl kX6_falling (fun j h => by
  match j, h with
  | 0, _ => exact kX6_falling_0
  | 1, _ => exact kX6_falling_1) (by decide +kernel)
theorem kX6_ringing : ab_ck1 mX6_ringing 6081 = true := by decide +kernel
theorem kX6_ringing_0 : ab_ckr 6 mX6_ringing 0 = true := by decide +kernel
theorem oX6_ringing : ab_ok ab_Nl ab_Sl ab_M ab_G ab_Ws mX6_ringing := ab_ck_ok (J := 1) rfl kX6_ringing (fun j h => by
  match j, h with
  | 0, _ => exact kX6_ringing_0) (by decide +kernel)
theorem kX6_sinking : ab_ck1 mX6_sinking 6085 = true := by decide +kernel
theorem kX6_sinking_0 : ab_ckr 6 mX6_sinking 0 = true := by decide +kernel
theorem oX6_sinking : ab_ok ab_Nl ab_Sl ab_M ab_G ab_Ws mX6_sinking := ab_ck_ok (J := 1) rfl kX6_sinking (fun j h => by
  match j, h with
  | 0, _ => exact kX6_sinking_0) (by decide +kernel)
theorem kX6_act : ab_ck1 mX6_act 6069 = true := by decide +kernel
theorem kX6_act_0 : ab_ckr 6 mX6_act 0 = true := by decide +kernel
theorem oX6_act : ab_ok ab_Nl ab_Sl ab_M ab_G ab_Ws mX6_act := ab_ck_ok (J := 1) rfl kX6_act (fun j h => by
  match j, h with
  | 0, _ => exact kX6_act_0) (by decide +kernel)
theorem kX6_trace : ab_ck1 mX6_trace 6089 = true := by decide +kernel
theorem kX6_trace_0 : ab_ckr 6 mX6_trace 0 = true := by decide +kernel
theorem oX6_trace : ab_ok ab_Nl ab_Sl ab_M ab_G ab_Ws mX6_trace := ab_ck_ok (J := 1) rfl kX6_trace (fun j h => by
  match j, h with
  | 0, _ => exact kX6_trace_0) (by decide +kernel)
theorem kX6_image : ab_ck1 mX6_image 6093 = true := by decide +kernel
theorem kX6_image_0 : ab_ckr 6 mX6_image 0 = true := by decide +kernel
theorem oX6_image : ab_ok ab_Nl ab_Sl ab_M ab_G ab_Ws mX6_image := ab_ck_ok (J := 1) rfl kX6_image (fun j h => by
  match j, h with
  | 0, _ => exact kX6_image_0) (by decide +kernel)
theorem kX6_restore : ab_ck1 mX6_restore 6097 = true := by decide +kernel
theorem kX6_restore_0 : ab_ckr 6 mX6_restore 0 = true := by decide +kernel
theorem oX6_restore : ab_ok ab_Nl ab_Sl ab_M ab_G ab_Ws mX6_restore := ab_ck_ok (J := 1) rfl kX6_restore (fun j h => by
  match j, h with
  | 0, _ => exact kX6_restore_0) (by decide +kernel)
theorem kX6_status : ab_ck1 mX6_status 6101 = true := by decide +kernel
theorem kX6_status_0 : ab_ckr 6 mX6_status 0 = true := by decide +kernel
theorem kX6_status_1 : ab_ckr 6 mX6_status 1 = true := by decide +kernel
theorem oX6_status : ab_ok ab_Nl ab_Sl ab_M ab_G ab_Ws mX6_status := ab_ck_ok (J := 2) rfl kX6_status (fun j h => by
  match j, h with
  | 0, _ => exact kX6_status_0
  | 1, _ => exact kX6_status_1) (by decide +kernel)
theorem kJ6_bitCount_0f7a4 : ab_ck1 mJ6_bitCount_0f7a4 3160 = true := by decide +kernel
theorem kJ6_bitCount_0f7a4_0 : ab_ckr 20 mJ6_bitCount_0f7a4 0 = true := by decide +kernel
theorem oJ6_bitCount_0f7a4 : ab_ok ab_Nl ab_Sl ab_M ab_G ab_Ws mJ6_bitCount_0f7a4 := ab_ck_ok (J := 1) rfl kJ6_bitCount_0f7a4 (fun j h => by
  match j, h with
  | 0, _ => exact kJ6_bitCount_0f7a4_0) (by decide +kernel)
theorem kJ7_fill_d0a16 : ab_ck1 mJ7_fill_d0a16 1233 = true := by decide +kernel
theorem kJ7_fill_d0a16_0 : ab_ckr 22 mJ7_fill_d0a16 0 = true := by decide +kernel
theorem oJ7_fill_d0a16 : ab_ok ab_Nl ab_Sl ab_M ab_G ab_Ws mJ7_fill_d0a16 := ab_ck_ok (J := 1) rfl kJ7_fill_d0a16 (fun j h => by
  match j, h with
  | 0, _ => exact kJ7_fill_d0a16_0) (by decide +kernel)
theorem kJ7_fill_53178 : ab_ck1 mJ7_fill_53178 3114 = true := by decide +kernel
theorem kJ7_fill_53178_0 : ab_ckr 22 mJ7_fill_53178 0 = true := by decide +kernel
theorem oJ7_fill_53178 : ab_ok ab_Nl ab_Sl ab_M ab_G ab_Ws mJ7_fill_53178 := ab_ck_ok (J := 1) rfl kJ7_fill_53178 (fun j h => by
  match j, h with
  | 0, _ => exact kJ7_fill_53178_0) (by decide +kernel)
def ab_M0 : List ab_D := [mX0_init, mX0_bitsBy, mX0_weigh, mX0_putIn, mX0_fewestFor, mX0_amountsOf, mX1_init, mX1_bodyAt, mX1_answer, mX1_begin, mX1_bodyOf, mX1_kindWithBody, mX1_answerFrom, mX2_init, mX2_read, mX2_readItem, mX2_readPiece, mX2_readPerson, mX2_readCost, mX2_readHas]
theorem ab_o0 : ∀ my ∈ ab_M0, ab_ok ab_Nl ab_Sl ab_M ab_G ab_Ws my := List.forall_mem_cons.mpr ⟨oX0_init, List.forall_mem_cons.mpr ⟨oX0_bitsBy, List.forall_mem_cons.mpr ⟨oX0_weigh, List.forall_mem_cons.mpr ⟨oX0_putIn, List.forall_mem_cons.mpr ⟨oX0_fewestFor, List.forall_mem_cons.mpr ⟨oX0_amountsOf, List.forall_mem_cons.mpr ⟨oX1_init, List.forall_mem_cons.mpr ⟨oX1_bodyAt, List.forall_mem_cons.mpr ⟨oX1_answer, List.forall_mem_cons.mpr ⟨oX1_begin, List.forall_mem_cons.mpr ⟨oX1_bodyOf, List.forall_mem_cons.mpr ⟨oX1_kindWithBody, List.forall_mem_cons.mpr ⟨oX1_answerFrom, List.forall_mem_cons.mpr ⟨oX2_init, List.forall_mem_cons.mpr ⟨oX2_read, List.forall_mem_cons.mpr ⟨oX2_readItem, List.forall_mem_cons.mpr ⟨oX2_readPiece, List.forall_mem_cons.mpr ⟨oX2_readPerson, List.forall_mem_cons.mpr ⟨oX2_readCost, List.forall_mem_cons.mpr ⟨oX2_readHas, fun _ h => absurd h List.not_mem_nil⟩⟩⟩⟩⟩⟩⟩⟩⟩⟩⟩⟩⟩⟩⟩⟩⟩⟩⟩⟩
def ab_M1 : List ab_D := [mX2_readBack, mX2_readWord, mX2_spelt, mX2_lettersAsIn, mX2_stands, mX2_readSign, mX2_readNumber, mX2_isDigit, mX2_readDigit, mX3_init, mX3_holdRow, mX3_holdPiece, mX3_isEmpty, mX3_isOtherThanRow, mX3_isOfOtherSort, mX3_hasElement, mX3_hasStretch, mX3_put, mX3_lowestBits, mX3_copyTo]
theorem ab_o1 : ∀ my ∈ ab_M1, ab_ok ab_Nl ab_Sl ab_M ab_G ab_Ws my := List.forall_mem_cons.mpr ⟨oX2_readBack, List.forall_mem_cons.mpr ⟨oX2_readWord, List.forall_mem_cons.mpr ⟨oX2_spelt, List.forall_mem_cons.mpr ⟨oX2_lettersAsIn, List.forall_mem_cons.mpr ⟨oX2_stands, List.forall_mem_cons.mpr ⟨oX2_readSign, List.forall_mem_cons.mpr ⟨oX2_readNumber, List.forall_mem_cons.mpr ⟨oX2_isDigit, List.forall_mem_cons.mpr ⟨oX2_readDigit, List.forall_mem_cons.mpr ⟨oX3_init, List.forall_mem_cons.mpr ⟨oX3_holdRow, List.forall_mem_cons.mpr ⟨oX3_holdPiece, List.forall_mem_cons.mpr ⟨oX3_isEmpty, List.forall_mem_cons.mpr ⟨oX3_isOtherThanRow, List.forall_mem_cons.mpr ⟨oX3_isOfOtherSort, List.forall_mem_cons.mpr ⟨oX3_hasElement, List.forall_mem_cons.mpr ⟨oX3_hasStretch, List.forall_mem_cons.mpr ⟨oX3_put, List.forall_mem_cons.mpr ⟨oX3_lowestBits, List.forall_mem_cons.mpr ⟨oX3_copyTo, fun _ h => absurd h List.not_mem_nil⟩⟩⟩⟩⟩⟩⟩⟩⟩⟩⟩⟩⟩⟩⟩⟩⟩⟩⟩⟩
def ab_M2 : List ab_D := [mX3_whole, mX3_read, mX3_readAll, mX3_first, mX3_second, mX4_init, mX4_isKind, mX4_isWish, mX4_isAmount, mX4_isBit, mX4_isPiece, mX4_isPerson, mX4_hasRoomForPiece, mX4_hasRoomForPerson, mX4_isOfKind, mX4_take, mX4_addPiece, mX4_addPerson, mX4_worthOf, mX4_harmOf]
theorem ab_o2 : ∀ my ∈ ab_M2, ab_ok ab_Nl ab_Sl ab_M ab_G ab_Ws my := List.forall_mem_cons.mpr ⟨oX3_whole, List.forall_mem_cons.mpr ⟨oX3_read, List.forall_mem_cons.mpr ⟨oX3_readAll, List.forall_mem_cons.mpr ⟨oX3_first, List.forall_mem_cons.mpr ⟨oX3_second, List.forall_mem_cons.mpr ⟨oX4_init, List.forall_mem_cons.mpr ⟨oX4_isKind, List.forall_mem_cons.mpr ⟨oX4_isWish, List.forall_mem_cons.mpr ⟨oX4_isAmount, List.forall_mem_cons.mpr ⟨oX4_isBit, List.forall_mem_cons.mpr ⟨oX4_isPiece, List.forall_mem_cons.mpr ⟨oX4_isPerson, List.forall_mem_cons.mpr ⟨oX4_hasRoomForPiece, List.forall_mem_cons.mpr ⟨oX4_hasRoomForPerson, List.forall_mem_cons.mpr ⟨oX4_isOfKind, List.forall_mem_cons.mpr ⟨oX4_take, List.forall_mem_cons.mpr ⟨oX4_addPiece, List.forall_mem_cons.mpr ⟨oX4_addPerson, List.forall_mem_cons.mpr ⟨oX4_worthOf, List.forall_mem_cons.mpr ⟨oX4_harmOf, fun _ h => absurd h List.not_mem_nil⟩⟩⟩⟩⟩⟩⟩⟩⟩⟩⟩⟩⟩⟩⟩⟩⟩⟩⟩⟩
def ab_M3 : List ab_D := [mX4_worthOfBits, mX4_harmOfBits, mX4_bitsAt, mX4_basin, mX4_wanting, mX4_grantedTogether, mX4_priceFor, mX4_priceByCost, mX4_bestThrow, mX4_greedyFor, mX4_greatestUpTo, mX4_grant, mX4_draw, mX4_drawDay, mX4_throwIn, mX5_init, mX5_row, mX5_set, mX5_copy, mX5_element]
theorem ab_o3 : ∀ my ∈ ab_M3, ab_ok ab_Nl ab_Sl ab_M ab_G ab_Ws my := List.forall_mem_cons.mpr ⟨oX4_worthOfBits, List.forall_mem_cons.mpr ⟨oX4_harmOfBits, List.forall_mem_cons.mpr ⟨oX4_bitsAt, List.forall_mem_cons.mpr ⟨oX4_basin, List.forall_mem_cons.mpr ⟨oX4_wanting, List.forall_mem_cons.mpr ⟨oX4_grantedTogether, List.forall_mem_cons.mpr ⟨oX4_priceFor, List.forall_mem_cons.mpr ⟨oX4_priceByCost, List.forall_mem_cons.mpr ⟨oX4_bestThrow, List.forall_mem_cons.mpr ⟨oX4_greedyFor, List.forall_mem_cons.mpr ⟨oX4_greatestUpTo, List.forall_mem_cons.mpr ⟨oX4_grant, List.forall_mem_cons.mpr ⟨oX4_draw, List.forall_mem_cons.mpr ⟨oX4_drawDay, List.forall_mem_cons.mpr ⟨oX4_throwIn, List.forall_mem_cons.mpr ⟨oX5_init, List.forall_mem_cons.mpr ⟨oX5_row, List.forall_mem_cons.mpr ⟨oX5_set, List.forall_mem_cons.mpr ⟨oX5_copy, List.forall_mem_cons.mpr ⟨oX5_element, fun _ h => absurd h List.not_mem_nil⟩⟩⟩⟩⟩⟩⟩⟩⟩⟩⟩⟩⟩⟩⟩⟩⟩⟩⟩⟩
def ab_M4 : List ab_D := [mX5_show, mX5_holds, mX5_says, mX5_piece, mX5_person, mX5_cost, mX5_rule, mX5_tell, mX5_pieceOf, mX5_personOf, mX5_square, mX5_fault, mX5_price, mX5_change, mX5_harm, mX5_best, mX5_fails, mX5_amounts, mX5_run, mX5_rules]
theorem ab_o4 : ∀ my ∈ ab_M4, ab_ok ab_Nl ab_Sl ab_M ab_G ab_Ws my := List.forall_mem_cons.mpr ⟨oX5_show, List.forall_mem_cons.mpr ⟨oX5_holds, List.forall_mem_cons.mpr ⟨oX5_says, List.forall_mem_cons.mpr ⟨oX5_piece, List.forall_mem_cons.mpr ⟨oX5_person, List.forall_mem_cons.mpr ⟨oX5_cost, List.forall_mem_cons.mpr ⟨oX5_rule, List.forall_mem_cons.mpr ⟨oX5_tell, List.forall_mem_cons.mpr ⟨oX5_pieceOf, List.forall_mem_cons.mpr ⟨oX5_personOf, List.forall_mem_cons.mpr ⟨oX5_square, List.forall_mem_cons.mpr ⟨oX5_fault, List.forall_mem_cons.mpr ⟨oX5_price, List.forall_mem_cons.mpr ⟨oX5_change, List.forall_mem_cons.mpr ⟨oX5_harm, List.forall_mem_cons.mpr ⟨oX5_best, List.forall_mem_cons.mpr ⟨oX5_fails, List.forall_mem_cons.mpr ⟨oX5_amounts, List.forall_mem_cons.mpr ⟨oX5_run, List.forall_mem_cons.mpr ⟨oX5_rules, fun _ h => absurd h List.not_mem_nil⟩⟩⟩⟩⟩⟩⟩⟩⟩⟩⟩⟩⟩⟩⟩⟩⟩⟩⟩⟩
def ab_M5 : List ab_D := [mX5_costs, mX5_dear, mX5_rich, mX5_judge, mX5_behind, mX5_done, mX5_cast, mX5_back, mX5_days, mX5_seed, mX5_act, mX5_trace, mX5_image, mX5_restore, mX5_status, mX5_isFrom, mX5_isOneOfTwo, mX5_isShelf, mX5_refuse, mX5_whyNoRow]
theorem ab_o5 : ∀ my ∈ ab_M5, ab_ok ab_Nl ab_Sl ab_M ab_G ab_Ws my := List.forall_mem_cons.mpr ⟨oX5_costs, List.forall_mem_cons.mpr ⟨oX5_dear, List.forall_mem_cons.mpr ⟨oX5_rich, List.forall_mem_cons.mpr ⟨oX5_judge, List.forall_mem_cons.mpr ⟨oX5_behind, List.forall_mem_cons.mpr ⟨oX5_done, List.forall_mem_cons.mpr ⟨oX5_cast, List.forall_mem_cons.mpr ⟨oX5_back, List.forall_mem_cons.mpr ⟨oX5_days, List.forall_mem_cons.mpr ⟨oX5_seed, List.forall_mem_cons.mpr ⟨oX5_act, List.forall_mem_cons.mpr ⟨oX5_trace, List.forall_mem_cons.mpr ⟨oX5_image, List.forall_mem_cons.mpr ⟨oX5_restore, List.forall_mem_cons.mpr ⟨oX5_status, List.forall_mem_cons.mpr ⟨oX5_isFrom, List.forall_mem_cons.mpr ⟨oX5_isOneOfTwo, List.forall_mem_cons.mpr ⟨oX5_isShelf, List.forall_mem_cons.mpr ⟨oX5_refuse, List.forall_mem_cons.mpr ⟨oX5_whyNoRow, fun _ h => absurd h List.not_mem_nil⟩⟩⟩⟩⟩⟩⟩⟩⟩⟩⟩⟩⟩⟩⟩⟩⟩⟩⟩⟩
def ab_M6 : List ab_D := [mX5_whyNoTwos, mX5_tellOne, mX5_throwBy, mX5_draftDay, mX5_areAllThere, mX5_isCost, mX5_dearest, mX5_crowd, mX6_init, mX6_no, mX6_noTen, mX6_isShelf, mX6_isPiece, mX6_isOne, mX6_isFrom, mX6_row, mX6_set, mX6_copy, mX6_element, mX6_show]
theorem ab_o6 : ∀ my ∈ ab_M6, ab_ok ab_Nl ab_Sl ab_M ab_G ab_Ws my := List.forall_mem_cons.mpr ⟨oX5_whyNoTwos, List.forall_mem_cons.mpr ⟨oX5_tellOne, List.forall_mem_cons.mpr ⟨oX5_throwBy, List.forall_mem_cons.mpr ⟨oX5_draftDay, List.forall_mem_cons.mpr ⟨oX5_areAllThere, List.forall_mem_cons.mpr ⟨oX5_isCost, List.forall_mem_cons.mpr ⟨oX5_dearest, List.forall_mem_cons.mpr ⟨oX5_crowd, List.forall_mem_cons.mpr ⟨oX6_init, List.forall_mem_cons.mpr ⟨oX6_no, List.forall_mem_cons.mpr ⟨oX6_noTen, List.forall_mem_cons.mpr ⟨oX6_isShelf, List.forall_mem_cons.mpr ⟨oX6_isPiece, List.forall_mem_cons.mpr ⟨oX6_isOne, List.forall_mem_cons.mpr ⟨oX6_isFrom, List.forall_mem_cons.mpr ⟨oX6_row, List.forall_mem_cons.mpr ⟨oX6_set, List.forall_mem_cons.mpr ⟨oX6_copy, List.forall_mem_cons.mpr ⟨oX6_element, List.forall_mem_cons.mpr ⟨oX6_show, fun _ h => absurd h List.not_mem_nil⟩⟩⟩⟩⟩⟩⟩⟩⟩⟩⟩⟩⟩⟩⟩⟩⟩⟩⟩⟩
def ab_M7 : List ab_D := [mX6_holds, mX6_says, mX6_wanted, mX6_intAt, mX6_worth, mX6_harms, mX6_addsPiece, mX6_addsPerson, mX6_piece, mX6_person, mX6_cost, mX6_rule, mX6_tell, mX6_piecesOf, mX6_pieceOf, mX6_personOf, mX6_wrong, mX6_stands, mX6_word, mX6_isDigit]
theorem ab_o7 : ∀ my ∈ ab_M7, ab_ok ab_Nl ab_Sl ab_M ab_G ab_Ws my := List.forall_mem_cons.mpr ⟨oX6_holds, List.forall_mem_cons.mpr ⟨oX6_says, List.forall_mem_cons.mpr ⟨oX6_wanted, List.forall_mem_cons.mpr ⟨oX6_intAt, List.forall_mem_cons.mpr ⟨oX6_worth, List.forall_mem_cons.mpr ⟨oX6_harms, List.forall_mem_cons.mpr ⟨oX6_addsPiece, List.forall_mem_cons.mpr ⟨oX6_addsPerson, List.forall_mem_cons.mpr ⟨oX6_piece, List.forall_mem_cons.mpr ⟨oX6_person, List.forall_mem_cons.mpr ⟨oX6_cost, List.forall_mem_cons.mpr ⟨oX6_rule, List.forall_mem_cons.mpr ⟨oX6_tell, List.forall_mem_cons.mpr ⟨oX6_piecesOf, List.forall_mem_cons.mpr ⟨oX6_pieceOf, List.forall_mem_cons.mpr ⟨oX6_personOf, List.forall_mem_cons.mpr ⟨oX6_wrong, List.forall_mem_cons.mpr ⟨oX6_stands, List.forall_mem_cons.mpr ⟨oX6_word, List.forall_mem_cons.mpr ⟨oX6_isDigit, fun _ h => absurd h List.not_mem_nil⟩⟩⟩⟩⟩⟩⟩⟩⟩⟩⟩⟩⟩⟩⟩⟩⟩⟩⟩⟩
def ab_M8 : List ab_D := [mX6_reads, mX6_isSo, mX6_item, mX6_carries, mX6_all, mX6_square, mX6_fault, mX6_many, mX6_worthOf, mX6_harmOf, mX6_tellsBest, mX6_greedyFor, mX6_changeFor, mX6_change, mX6_priceFor, mX6_price, mX6_thrown, mX6_tellsThrow, mX6_harm, mX6_best]
theorem ab_o8 : ∀ my ∈ ab_M8, ab_ok ab_Nl ab_Sl ab_M ab_G ab_Ws my := List.forall_mem_cons.mpr ⟨oX6_reads, List.forall_mem_cons.mpr ⟨oX6_isSo, List.forall_mem_cons.mpr ⟨oX6_item, List.forall_mem_cons.mpr ⟨oX6_carries, List.forall_mem_cons.mpr ⟨oX6_all, List.forall_mem_cons.mpr ⟨oX6_square, List.forall_mem_cons.mpr ⟨oX6_fault, List.forall_mem_cons.mpr ⟨oX6_many, List.forall_mem_cons.mpr ⟨oX6_worthOf, List.forall_mem_cons.mpr ⟨oX6_harmOf, List.forall_mem_cons.mpr ⟨oX6_tellsBest, List.forall_mem_cons.mpr ⟨oX6_greedyFor, List.forall_mem_cons.mpr ⟨oX6_changeFor, List.forall_mem_cons.mpr ⟨oX6_change, List.forall_mem_cons.mpr ⟨oX6_priceFor, List.forall_mem_cons.mpr ⟨oX6_price, List.forall_mem_cons.mpr ⟨oX6_thrown, List.forall_mem_cons.mpr ⟨oX6_tellsThrow, List.forall_mem_cons.mpr ⟨oX6_harm, List.forall_mem_cons.mpr ⟨oX6_best, fun _ h => absurd h List.not_mem_nil⟩⟩⟩⟩⟩⟩⟩⟩⟩⟩⟩⟩⟩⟩⟩⟩⟩⟩⟩⟩
def ab_M9 : List ab_D := [mX6_fails, mX6_manyAmounts, mX6_amounts, mX6_throwsIn, mX6_runs, mX6_run, mX6_barsOf, mX6_rules, mX6_costs, mX6_dearest, mX6_wanting, mX6_dear, mX6_rich, mX6_goes, mX6_judge, mX6_behind, mX6_done, mX6_cast, mX6_back, mX6_draw]
theorem ab_o9 : ∀ my ∈ ab_M9, ab_ok ab_Nl ab_Sl ab_M ab_G ab_Ws my := List.forall_mem_cons.mpr ⟨oX6_fails, List.forall_mem_cons.mpr ⟨oX6_manyAmounts, List.forall_mem_cons.mpr ⟨oX6_amounts, List.forall_mem_cons.mpr ⟨oX6_throwsIn, List.forall_mem_cons.mpr ⟨oX6_runs, List.forall_mem_cons.mpr ⟨oX6_run, List.forall_mem_cons.mpr ⟨oX6_barsOf, List.forall_mem_cons.mpr ⟨oX6_rules, List.forall_mem_cons.mpr ⟨oX6_costs, List.forall_mem_cons.mpr ⟨oX6_dearest, List.forall_mem_cons.mpr ⟨oX6_wanting, List.forall_mem_cons.mpr ⟨oX6_dear, List.forall_mem_cons.mpr ⟨oX6_rich, List.forall_mem_cons.mpr ⟨oX6_goes, List.forall_mem_cons.mpr ⟨oX6_judge, List.forall_mem_cons.mpr ⟨oX6_behind, List.forall_mem_cons.mpr ⟨oX6_done, List.forall_mem_cons.mpr ⟨oX6_cast, List.forall_mem_cons.mpr ⟨oX6_back, List.forall_mem_cons.mpr ⟨oX6_draw, fun _ h => absurd h List.not_mem_nil⟩⟩⟩⟩⟩⟩⟩⟩⟩⟩⟩⟩⟩⟩⟩⟩⟩⟩⟩⟩
def ab_M10 : List ab_D := [mX6_day, mX6_allGranted, mX6_days, mX6_seed, mX6_body, mX6_falling, mX6_ringing, mX6_sinking, mX6_act, mX6_trace, mX6_image, mX6_restore, mX6_status, mJ6_bitCount_0f7a4, mJ7_fill_d0a16, mJ7_fill_53178]
theorem ab_o10 : ∀ my ∈ ab_M10, ab_ok ab_Nl ab_Sl ab_M ab_G ab_Ws my := List.forall_mem_cons.mpr ⟨oX6_day, List.forall_mem_cons.mpr ⟨oX6_allGranted, List.forall_mem_cons.mpr ⟨oX6_days, List.forall_mem_cons.mpr ⟨oX6_seed, List.forall_mem_cons.mpr ⟨oX6_body, List.forall_mem_cons.mpr ⟨oX6_falling, List.forall_mem_cons.mpr ⟨oX6_ringing, List.forall_mem_cons.mpr ⟨oX6_sinking, List.forall_mem_cons.mpr ⟨oX6_act, List.forall_mem_cons.mpr ⟨oX6_trace, List.forall_mem_cons.mpr ⟨oX6_image, List.forall_mem_cons.mpr ⟨oX6_restore, List.forall_mem_cons.mpr ⟨oX6_status, List.forall_mem_cons.mpr ⟨oJ6_bitCount_0f7a4, List.forall_mem_cons.mpr ⟨oJ7_fill_d0a16, List.forall_mem_cons.mpr ⟨oJ7_fill_53178, fun _ h => absurd h List.not_mem_nil⟩⟩⟩⟩⟩⟩⟩⟩⟩⟩⟩⟩⟩⟩⟩⟩
set_option maxRecDepth 10000 in
theorem ab_M_eq : ab_M = ab_M0 ++ (ab_M1 ++ (ab_M2 ++ (ab_M3 ++ (ab_M4 ++ (ab_M5 ++ (ab_M6 ++ (ab_M7 ++ (ab_M8 ++ (ab_M9 ++ (ab_M10)))))))))) := rfl
theorem ab_M_ok : ∀ (y : Nat) (my : ab_D), ab_M[y]? = some my → ab_ok ab_Nl ab_Sl ab_M ab_G ab_Ws my := by
  intro y my hy
  have hm := List.mem_of_getElem? hy
  rw [ab_M_eq] at hm
  rcases List.mem_append.mp hm with hm | hm
  · exact ab_o0 my hm
  rcases List.mem_append.mp hm with hm | hm
  · exact ab_o1 my hm
  rcases List.mem_append.mp hm with hm | hm
  · exact ab_o2 my hm
  rcases List.mem_append.mp hm with hm | hm
  · exact ab_o3 my hm
  rcases List.mem_append.mp hm with hm | hm
  · exact ab_o4 my hm
  rcases List.mem_append.mp hm with hm | hm
  · exact ab_o5 my hm
  rcases List.mem_append.mp hm with hm | hm
  · exact ab_o6 my hm
  rcases List.mem_append.mp hm with hm | hm
  · exact ab_o7 my hm
  rcases List.mem_append.mp hm with hm | hm
  · exact ab_o8 my hm
  rcases List.mem_append.mp hm with hm | hm
  · exact ab_o9 my hm
  exact ab_o10 my hm
theorem ab_cqW : ∃ T N ty, ab_G 3 = some (RX3, T, N, ty) := ⟨_, _, _, rfl⟩
/-- a run of the machine of worlds is a contract -/
theorem ab_met {l : Launch} {D : va_G} {K : ab_Q} {d f y : Nat} {As : List Value} {cs : List ab_C} {v : Option Value} {cs2 : List ab_C} {my : ab_D} (hmy : ab_M[y]? = some my) (h : ab_run ab_M ab_G ab_Z0 d f y As cs = some (v, cs2)) : ab_Mt l D vwCl K ab_Cq ab_Ws my d As cs v cs2 := ab_run_ok ab_Ws_good ab_cgW ab_cqW rfl ab_M_ok d f y As cs v cs2 my hmy h

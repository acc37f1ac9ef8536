/-! The layout of the memory (written by program), its facts; rules at the level of the memory -/
def zl_t0 : List zm_E := [.inr (0, [some (some 1), some (some 44), some (some 171), some (some 539), some (some 542), some (some 544)]), .inl (4, 7, 2, 6), .inr (1, [none, none, none, some (some 3)]), .inr (2, [some (some 4), some (some 5), some (some 6), some (some 7)]), .inl (0, 8, 0, 0), .inl (0, 8, 0, 0), .inl (0, 8, 0, 0), .inl (1, 8, 0, 0), .inr (1, [none, none, none, some (some 9)]), .inr (2, [some (some 10), some (some 11), some (some 12), some (some 13)]), .inl (0, 8, 0, 0), .inl (0, 8, 0, 0), .inl (0, 8, 0, 0), .inl (1, 8, 0, 0), .inr (1, [none, none, none, some (some 15)]), .inr (2, [some (some 16), some (some 17), some (some 18), some (some 19)])]
def zl_t1 : List zm_E := [.inl (0, 8, 0, 0), .inl (0, 8, 0, 0), .inl (0, 8, 0, 0), .inl (1, 8, 0, 0), .inr (1, [none, none, none, some (some 21)]), .inr (2, [some (some 22), some (some 23), some (some 24), some (some 25)]), .inl (0, 8, 0, 0), .inl (0, 8, 0, 0), .inl (0, 8, 0, 0), .inl (1, 8, 0, 0), .inr (1, [none, none, none, some (some 27)]), .inr (2, [some (some 28), some (some 29), some (some 30), some (some 31)]), .inl (0, 8, 0, 0), .inl (0, 8, 0, 0), .inl (0, 8, 0, 0), .inl (1, 8, 0, 0)]
def zl_t2 : List zm_E := [.inr (1, [none, none, none, some (some 33)]), .inr (2, [some (some 34), some (some 35), some (some 36), some (some 37)]), .inl (0, 8, 0, 0), .inl (0, 8, 0, 0), .inl (0, 8, 0, 0), .inl (1, 8, 0, 0), .inr (1, [none, none, none, some (some 39)]), .inr (2, [some (some 40), some (some 41), some (some 42), some (some 43)]), .inl (0, 8, 0, 0), .inl (0, 8, 0, 0), .inl (0, 8, 0, 0), .inl (1, 8, 0, 0), .inl (5, 2, 45, 63), .inr (3, [none, none, none, none, none, some (some 46), some (some 47), some (some 48)]), .inl (2, 24, 0, 0), .inl (6, 7, 49, 5)]
def zl_t3 : List zm_E := [.inl (7, 8, 84, 3), .inr (2, [some (some 50), some (some 51), some (some 52), some (some 53)]), .inl (0, 8, 0, 0), .inl (0, 8, 0, 0), .inl (0, 8, 0, 0), .inl (1, 8, 0, 0), .inr (2, [some (some 55), some (some 56), some (some 57), some (some 58)]), .inl (0, 8, 0, 0), .inl (0, 8, 0, 0), .inl (0, 8, 0, 0), .inl (1, 8, 0, 0), .inr (2, [some (some 60), some (some 61), some (some 62), some (some 63)]), .inl (0, 8, 0, 0), .inl (0, 8, 0, 0), .inl (0, 8, 0, 0), .inl (1, 8, 0, 0)]
def zl_t4 : List zm_E := [.inr (2, [some (some 65), some (some 66), some (some 67), some (some 68)]), .inl (0, 8, 0, 0), .inl (0, 8, 0, 0), .inl (0, 8, 0, 0), .inl (1, 8, 0, 0), .inr (2, [some (some 70), some (some 71), some (some 72), some (some 73)]), .inl (0, 8, 0, 0), .inl (0, 8, 0, 0), .inl (0, 8, 0, 0), .inl (1, 8, 0, 0), .inr (2, [some (some 75), some (some 76), some (some 77), some (some 78)]), .inl (0, 8, 0, 0), .inl (0, 8, 0, 0), .inl (0, 8, 0, 0), .inl (1, 8, 0, 0), .inr (2, [some (some 80), some (some 81), some (some 82), some (some 83)])]
def zl_t5 : List zm_E := [.inl (0, 8, 0, 0), .inl (0, 8, 0, 0), .inl (0, 8, 0, 0), .inl (1, 8, 0, 0), .inr (4, [none, none, none, some (some 85)]), .inr (5, [none, some (some 86)]), .inl (1, 3, 0, 0), .inr (4, [none, none, none, some (some 88)]), .inr (5, [none, some (some 89)]), .inl (1, 3, 0, 0), .inr (4, [none, none, none, some (some 91)]), .inr (5, [none, some (some 92)]), .inl (1, 3, 0, 0), .inr (4, [none, none, none, some (some 94)]), .inr (5, [none, some (some 95)]), .inl (1, 3, 0, 0)]
def zl_t6 : List zm_E := [.inr (4, [none, none, none, some (some 97)]), .inr (5, [none, some (some 98)]), .inl (1, 3, 0, 0), .inr (4, [none, none, none, some (some 100)]), .inr (5, [none, some (some 101)]), .inl (1, 3, 0, 0), .inr (4, [none, none, none, some (some 103)]), .inr (5, [none, some (some 104)]), .inl (1, 3, 0, 0), .inr (4, [none, none, none, some (some 106)]), .inr (5, [none, some (some 107)]), .inl (1, 3, 0, 0), .inr (3, [none, none, none, none, none, some (some 109), some (some 110), some (some 111)]), .inl (2, 24, 0, 0), .inl (6, 7, 112, 5), .inl (7, 8, 147, 3)]
def zl_t7 : List zm_E := [.inr (2, [some (some 113), some (some 114), some (some 115), some (some 116)]), .inl (0, 8, 0, 0), .inl (0, 8, 0, 0), .inl (0, 8, 0, 0), .inl (1, 8, 0, 0), .inr (2, [some (some 118), some (some 119), some (some 120), some (some 121)]), .inl (0, 8, 0, 0), .inl (0, 8, 0, 0), .inl (0, 8, 0, 0), .inl (1, 8, 0, 0), .inr (2, [some (some 123), some (some 124), some (some 125), some (some 126)]), .inl (0, 8, 0, 0), .inl (0, 8, 0, 0), .inl (0, 8, 0, 0), .inl (1, 8, 0, 0), .inr (2, [some (some 128), some (some 129), some (some 130), some (some 131)])]
def zl_t8 : List zm_E := [.inl (0, 8, 0, 0), .inl (0, 8, 0, 0), .inl (0, 8, 0, 0), .inl (1, 8, 0, 0), .inr (2, [some (some 133), some (some 134), some (some 135), some (some 136)]), .inl (0, 8, 0, 0), .inl (0, 8, 0, 0), .inl (0, 8, 0, 0), .inl (1, 8, 0, 0), .inr (2, [some (some 138), some (some 139), some (some 140), some (some 141)]), .inl (0, 8, 0, 0), .inl (0, 8, 0, 0), .inl (0, 8, 0, 0), .inl (1, 8, 0, 0), .inr (2, [some (some 143), some (some 144), some (some 145), some (some 146)]), .inl (0, 8, 0, 0)]
def zl_t9 : List zm_E := [.inl (0, 8, 0, 0), .inl (0, 8, 0, 0), .inl (1, 8, 0, 0), .inr (4, [none, none, none, some (some 148)]), .inr (5, [none, some (some 149)]), .inl (1, 3, 0, 0), .inr (4, [none, none, none, some (some 151)]), .inr (5, [none, some (some 152)]), .inl (1, 3, 0, 0), .inr (4, [none, none, none, some (some 154)]), .inr (5, [none, some (some 155)]), .inl (1, 3, 0, 0), .inr (4, [none, none, none, some (some 157)]), .inr (5, [none, some (some 158)]), .inl (1, 3, 0, 0), .inr (4, [none, none, none, some (some 160)])]
def zl_t10 : List zm_E := [.inr (5, [none, some (some 161)]), .inl (1, 3, 0, 0), .inr (4, [none, none, none, some (some 163)]), .inr (5, [none, some (some 164)]), .inl (1, 3, 0, 0), .inr (4, [none, none, none, some (some 166)]), .inr (5, [none, some (some 167)]), .inl (1, 3, 0, 0), .inr (4, [none, none, none, some (some 169)]), .inr (5, [none, some (some 170)]), .inl (1, 3, 0, 0), .inr (6, [none, some (some 172)]), .inl (8, 61, 0, 0), .inr (7, [none, none, none, none, none, none, none, some none, some (some 174)]), .inr (2, [some (some 175), some (some 176), some (some 177), some (some 178)]), .inl (0, 8, 0, 0)]
def zl_t11 : List zm_E := [.inl (0, 8, 0, 0), .inl (0, 8, 0, 0), .inl (1, 8, 0, 0), .inr (7, [none, none, none, none, none, none, none, some none, some (some 180)]), .inr (2, [some (some 181), some (some 182), some (some 183), some (some 184)]), .inl (0, 8, 0, 0), .inl (0, 8, 0, 0), .inl (0, 8, 0, 0), .inl (1, 8, 0, 0), .inr (7, [none, none, none, none, none, none, none, some none, some (some 186)]), .inr (2, [some (some 187), some (some 188), some (some 189), some (some 190)]), .inl (0, 8, 0, 0), .inl (0, 8, 0, 0), .inl (0, 8, 0, 0), .inl (1, 8, 0, 0), .inr (7, [none, none, none, none, none, none, none, some none, some (some 192)])]
def zl_t12 : List zm_E := [.inr (2, [some (some 193), some (some 194), some (some 195), some (some 196)]), .inl (0, 8, 0, 0), .inl (0, 8, 0, 0), .inl (0, 8, 0, 0), .inl (1, 8, 0, 0), .inr (7, [none, none, none, none, none, none, none, some none, some (some 198)]), .inr (2, [some (some 199), some (some 200), some (some 201), some (some 202)]), .inl (0, 8, 0, 0), .inl (0, 8, 0, 0), .inl (0, 8, 0, 0), .inl (1, 8, 0, 0), .inr (7, [none, none, none, none, none, none, none, some none, some (some 204)]), .inr (2, [some (some 205), some (some 206), some (some 207), some (some 208)]), .inl (0, 8, 0, 0), .inl (0, 8, 0, 0), .inl (0, 8, 0, 0)]
def zl_t13 : List zm_E := [.inl (1, 8, 0, 0), .inr (7, [none, none, none, none, none, none, none, some none, some (some 210)]), .inr (2, [some (some 211), some (some 212), some (some 213), some (some 214)]), .inl (0, 8, 0, 0), .inl (0, 8, 0, 0), .inl (0, 8, 0, 0), .inl (1, 8, 0, 0), .inr (7, [none, none, none, none, none, none, none, some none, some (some 216)]), .inr (2, [some (some 217), some (some 218), some (some 219), some (some 220)]), .inl (0, 8, 0, 0), .inl (0, 8, 0, 0), .inl (0, 8, 0, 0), .inl (1, 8, 0, 0), .inr (7, [none, none, none, none, none, none, none, some none, some (some 222)]), .inr (2, [some (some 223), some (some 224), some (some 225), some (some 226)]), .inl (0, 8, 0, 0)]
def zl_t14 : List zm_E := [.inl (0, 8, 0, 0), .inl (0, 8, 0, 0), .inl (1, 8, 0, 0), .inr (7, [none, none, none, none, none, none, none, some none, some (some 228)]), .inr (2, [some (some 229), some (some 230), some (some 231), some (some 232)]), .inl (0, 8, 0, 0), .inl (0, 8, 0, 0), .inl (0, 8, 0, 0), .inl (1, 8, 0, 0), .inr (7, [none, none, none, none, none, none, none, some none, some (some 234)]), .inr (2, [some (some 235), some (some 236), some (some 237), some (some 238)]), .inl (0, 8, 0, 0), .inl (0, 8, 0, 0), .inl (0, 8, 0, 0), .inl (1, 8, 0, 0), .inr (7, [none, none, none, none, none, none, none, some none, some (some 240)])]
def zl_t15 : List zm_E := [.inr (2, [some (some 241), some (some 242), some (some 243), some (some 244)]), .inl (0, 8, 0, 0), .inl (0, 8, 0, 0), .inl (0, 8, 0, 0), .inl (1, 8, 0, 0), .inr (7, [none, none, none, none, none, none, none, some none, some (some 246)]), .inr (2, [some (some 247), some (some 248), some (some 249), some (some 250)]), .inl (0, 8, 0, 0), .inl (0, 8, 0, 0), .inl (0, 8, 0, 0), .inl (1, 8, 0, 0), .inr (7, [none, none, none, none, none, none, none, some none, some (some 252)]), .inr (2, [some (some 253), some (some 254), some (some 255), some (some 256)]), .inl (0, 8, 0, 0), .inl (0, 8, 0, 0), .inl (0, 8, 0, 0)]
def zl_t16 : List zm_E := [.inl (1, 8, 0, 0), .inr (7, [none, none, none, none, none, none, none, some none, some (some 258)]), .inr (2, [some (some 259), some (some 260), some (some 261), some (some 262)]), .inl (0, 8, 0, 0), .inl (0, 8, 0, 0), .inl (0, 8, 0, 0), .inl (1, 8, 0, 0), .inr (7, [none, none, none, none, none, none, none, some none, some (some 264)]), .inr (2, [some (some 265), some (some 266), some (some 267), some (some 268)]), .inl (0, 8, 0, 0), .inl (0, 8, 0, 0), .inl (0, 8, 0, 0), .inl (1, 8, 0, 0), .inr (7, [none, none, none, none, none, none, none, some none, some (some 270)]), .inr (2, [some (some 271), some (some 272), some (some 273), some (some 274)]), .inl (0, 8, 0, 0)]
def zl_t17 : List zm_E := [.inl (0, 8, 0, 0), .inl (0, 8, 0, 0), .inl (1, 8, 0, 0), .inr (7, [none, none, none, none, none, none, none, some none, some (some 276)]), .inr (2, [some (some 277), some (some 278), some (some 279), some (some 280)]), .inl (0, 8, 0, 0), .inl (0, 8, 0, 0), .inl (0, 8, 0, 0), .inl (1, 8, 0, 0), .inr (7, [none, none, none, none, none, none, none, some none, some (some 282)]), .inr (2, [some (some 283), some (some 284), some (some 285), some (some 286)]), .inl (0, 8, 0, 0), .inl (0, 8, 0, 0), .inl (0, 8, 0, 0), .inl (1, 8, 0, 0), .inr (7, [none, none, none, none, none, none, none, some none, some (some 288)])]
def zl_t18 : List zm_E := [.inr (2, [some (some 289), some (some 290), some (some 291), some (some 292)]), .inl (0, 8, 0, 0), .inl (0, 8, 0, 0), .inl (0, 8, 0, 0), .inl (1, 8, 0, 0), .inr (7, [none, none, none, none, none, none, none, some none, some (some 294)]), .inr (2, [some (some 295), some (some 296), some (some 297), some (some 298)]), .inl (0, 8, 0, 0), .inl (0, 8, 0, 0), .inl (0, 8, 0, 0), .inl (1, 8, 0, 0), .inr (7, [none, none, none, none, none, none, none, some none, some (some 300)]), .inr (2, [some (some 301), some (some 302), some (some 303), some (some 304)]), .inl (0, 8, 0, 0), .inl (0, 8, 0, 0), .inl (0, 8, 0, 0)]
def zl_t19 : List zm_E := [.inl (1, 8, 0, 0), .inr (7, [none, none, none, none, none, none, none, some none, some (some 306)]), .inr (2, [some (some 307), some (some 308), some (some 309), some (some 310)]), .inl (0, 8, 0, 0), .inl (0, 8, 0, 0), .inl (0, 8, 0, 0), .inl (1, 8, 0, 0), .inr (7, [none, none, none, none, none, none, none, some none, some (some 312)]), .inr (2, [some (some 313), some (some 314), some (some 315), some (some 316)]), .inl (0, 8, 0, 0), .inl (0, 8, 0, 0), .inl (0, 8, 0, 0), .inl (1, 8, 0, 0), .inr (7, [none, none, none, none, none, none, none, some none, some (some 318)]), .inr (2, [some (some 319), some (some 320), some (some 321), some (some 322)]), .inl (0, 8, 0, 0)]
def zl_t20 : List zm_E := [.inl (0, 8, 0, 0), .inl (0, 8, 0, 0), .inl (1, 8, 0, 0), .inr (7, [none, none, none, none, none, none, none, some none, some (some 324)]), .inr (2, [some (some 325), some (some 326), some (some 327), some (some 328)]), .inl (0, 8, 0, 0), .inl (0, 8, 0, 0), .inl (0, 8, 0, 0), .inl (1, 8, 0, 0), .inr (7, [none, none, none, none, none, none, none, some none, some (some 330)]), .inr (2, [some (some 331), some (some 332), some (some 333), some (some 334)]), .inl (0, 8, 0, 0), .inl (0, 8, 0, 0), .inl (0, 8, 0, 0), .inl (1, 8, 0, 0), .inr (7, [none, none, none, none, none, none, none, some none, some (some 336)])]
def zl_t21 : List zm_E := [.inr (2, [some (some 337), some (some 338), some (some 339), some (some 340)]), .inl (0, 8, 0, 0), .inl (0, 8, 0, 0), .inl (0, 8, 0, 0), .inl (1, 8, 0, 0), .inr (7, [none, none, none, none, none, none, none, some none, some (some 342)]), .inr (2, [some (some 343), some (some 344), some (some 345), some (some 346)]), .inl (0, 8, 0, 0), .inl (0, 8, 0, 0), .inl (0, 8, 0, 0), .inl (1, 8, 0, 0), .inr (7, [none, none, none, none, none, none, none, some none, some (some 348)]), .inr (2, [some (some 349), some (some 350), some (some 351), some (some 352)]), .inl (0, 8, 0, 0), .inl (0, 8, 0, 0), .inl (0, 8, 0, 0)]
def zl_t22 : List zm_E := [.inl (1, 8, 0, 0), .inr (7, [none, none, none, none, none, none, none, some none, some (some 354)]), .inr (2, [some (some 355), some (some 356), some (some 357), some (some 358)]), .inl (0, 8, 0, 0), .inl (0, 8, 0, 0), .inl (0, 8, 0, 0), .inl (1, 8, 0, 0), .inr (7, [none, none, none, none, none, none, none, some none, some (some 360)]), .inr (2, [some (some 361), some (some 362), some (some 363), some (some 364)]), .inl (0, 8, 0, 0), .inl (0, 8, 0, 0), .inl (0, 8, 0, 0), .inl (1, 8, 0, 0), .inr (7, [none, none, none, none, none, none, none, some none, some (some 366)]), .inr (2, [some (some 367), some (some 368), some (some 369), some (some 370)]), .inl (0, 8, 0, 0)]
def zl_t23 : List zm_E := [.inl (0, 8, 0, 0), .inl (0, 8, 0, 0), .inl (1, 8, 0, 0), .inr (7, [none, none, none, none, none, none, none, some none, some (some 372)]), .inr (2, [some (some 373), some (some 374), some (some 375), some (some 376)]), .inl (0, 8, 0, 0), .inl (0, 8, 0, 0), .inl (0, 8, 0, 0), .inl (1, 8, 0, 0), .inr (7, [none, none, none, none, none, none, none, some none, some (some 378)]), .inr (2, [some (some 379), some (some 380), some (some 381), some (some 382)]), .inl (0, 8, 0, 0), .inl (0, 8, 0, 0), .inl (0, 8, 0, 0), .inl (1, 8, 0, 0), .inr (7, [none, none, none, none, none, none, none, some none, some (some 384)])]
def zl_t24 : List zm_E := [.inr (2, [some (some 385), some (some 386), some (some 387), some (some 388)]), .inl (0, 8, 0, 0), .inl (0, 8, 0, 0), .inl (0, 8, 0, 0), .inl (1, 8, 0, 0), .inr (7, [none, none, none, none, none, none, none, some none, some (some 390)]), .inr (2, [some (some 391), some (some 392), some (some 393), some (some 394)]), .inl (0, 8, 0, 0), .inl (0, 8, 0, 0), .inl (0, 8, 0, 0), .inl (1, 8, 0, 0), .inr (7, [none, none, none, none, none, none, none, some none, some (some 396)]), .inr (2, [some (some 397), some (some 398), some (some 399), some (some 400)]), .inl (0, 8, 0, 0), .inl (0, 8, 0, 0), .inl (0, 8, 0, 0)]
def zl_t25 : List zm_E := [.inl (1, 8, 0, 0), .inr (7, [none, none, none, none, none, none, none, some none, some (some 402)]), .inr (2, [some (some 403), some (some 404), some (some 405), some (some 406)]), .inl (0, 8, 0, 0), .inl (0, 8, 0, 0), .inl (0, 8, 0, 0), .inl (1, 8, 0, 0), .inr (7, [none, none, none, none, none, none, none, some none, some (some 408)]), .inr (2, [some (some 409), some (some 410), some (some 411), some (some 412)]), .inl (0, 8, 0, 0), .inl (0, 8, 0, 0), .inl (0, 8, 0, 0), .inl (1, 8, 0, 0), .inr (7, [none, none, none, none, none, none, none, some none, some (some 414)]), .inr (2, [some (some 415), some (some 416), some (some 417), some (some 418)]), .inl (0, 8, 0, 0)]
def zl_t26 : List zm_E := [.inl (0, 8, 0, 0), .inl (0, 8, 0, 0), .inl (1, 8, 0, 0), .inr (7, [none, none, none, none, none, none, none, some none, some (some 420)]), .inr (2, [some (some 421), some (some 422), some (some 423), some (some 424)]), .inl (0, 8, 0, 0), .inl (0, 8, 0, 0), .inl (0, 8, 0, 0), .inl (1, 8, 0, 0), .inr (7, [none, none, none, none, none, none, none, some none, some (some 426)]), .inr (2, [some (some 427), some (some 428), some (some 429), some (some 430)]), .inl (0, 8, 0, 0), .inl (0, 8, 0, 0), .inl (0, 8, 0, 0), .inl (1, 8, 0, 0), .inr (7, [none, none, none, none, none, none, none, some none, some (some 432)])]
def zl_t27 : List zm_E := [.inr (2, [some (some 433), some (some 434), some (some 435), some (some 436)]), .inl (0, 8, 0, 0), .inl (0, 8, 0, 0), .inl (0, 8, 0, 0), .inl (1, 8, 0, 0), .inr (7, [none, none, none, none, none, none, none, some none, some (some 438)]), .inr (2, [some (some 439), some (some 440), some (some 441), some (some 442)]), .inl (0, 8, 0, 0), .inl (0, 8, 0, 0), .inl (0, 8, 0, 0), .inl (1, 8, 0, 0), .inr (7, [none, none, none, none, none, none, none, some none, some (some 444)]), .inr (2, [some (some 445), some (some 446), some (some 447), some (some 448)]), .inl (0, 8, 0, 0), .inl (0, 8, 0, 0), .inl (0, 8, 0, 0)]
def zl_t28 : List zm_E := [.inl (1, 8, 0, 0), .inr (7, [none, none, none, none, none, none, none, some none, some (some 450)]), .inr (2, [some (some 451), some (some 452), some (some 453), some (some 454)]), .inl (0, 8, 0, 0), .inl (0, 8, 0, 0), .inl (0, 8, 0, 0), .inl (1, 8, 0, 0), .inr (7, [none, none, none, none, none, none, none, some none, some (some 456)]), .inr (2, [some (some 457), some (some 458), some (some 459), some (some 460)]), .inl (0, 8, 0, 0), .inl (0, 8, 0, 0), .inl (0, 8, 0, 0), .inl (1, 8, 0, 0), .inr (7, [none, none, none, none, none, none, none, some none, some (some 462)]), .inr (2, [some (some 463), some (some 464), some (some 465), some (some 466)]), .inl (0, 8, 0, 0)]
def zl_t29 : List zm_E := [.inl (0, 8, 0, 0), .inl (0, 8, 0, 0), .inl (1, 8, 0, 0), .inr (7, [none, none, none, none, none, none, none, some none, some (some 468)]), .inr (2, [some (some 469), some (some 470), some (some 471), some (some 472)]), .inl (0, 8, 0, 0), .inl (0, 8, 0, 0), .inl (0, 8, 0, 0), .inl (1, 8, 0, 0), .inr (7, [none, none, none, none, none, none, none, some none, some (some 474)]), .inr (2, [some (some 475), some (some 476), some (some 477), some (some 478)]), .inl (0, 8, 0, 0), .inl (0, 8, 0, 0), .inl (0, 8, 0, 0), .inl (1, 8, 0, 0), .inr (7, [none, none, none, none, none, none, none, some none, some (some 480)])]
def zl_t30 : List zm_E := [.inr (2, [some (some 481), some (some 482), some (some 483), some (some 484)]), .inl (0, 8, 0, 0), .inl (0, 8, 0, 0), .inl (0, 8, 0, 0), .inl (1, 8, 0, 0), .inr (7, [none, none, none, none, none, none, none, some none, some (some 486)]), .inr (2, [some (some 487), some (some 488), some (some 489), some (some 490)]), .inl (0, 8, 0, 0), .inl (0, 8, 0, 0), .inl (0, 8, 0, 0), .inl (1, 8, 0, 0), .inr (7, [none, none, none, none, none, none, none, some none, some (some 492)]), .inr (2, [some (some 493), some (some 494), some (some 495), some (some 496)]), .inl (0, 8, 0, 0), .inl (0, 8, 0, 0), .inl (0, 8, 0, 0)]
def zl_t31 : List zm_E := [.inl (1, 8, 0, 0), .inr (7, [none, none, none, none, none, none, none, some none, some (some 498)]), .inr (2, [some (some 499), some (some 500), some (some 501), some (some 502)]), .inl (0, 8, 0, 0), .inl (0, 8, 0, 0), .inl (0, 8, 0, 0), .inl (1, 8, 0, 0), .inr (7, [none, none, none, none, none, none, none, some none, some (some 504)]), .inr (2, [some (some 505), some (some 506), some (some 507), some (some 508)]), .inl (0, 8, 0, 0), .inl (0, 8, 0, 0), .inl (0, 8, 0, 0), .inl (1, 8, 0, 0), .inr (7, [none, none, none, none, none, none, none, some none, some (some 510)]), .inr (2, [some (some 511), some (some 512), some (some 513), some (some 514)]), .inl (0, 8, 0, 0)]
def zl_t32 : List zm_E := [.inl (0, 8, 0, 0), .inl (0, 8, 0, 0), .inl (1, 8, 0, 0), .inr (7, [none, none, none, none, none, none, none, some none, some (some 516)]), .inr (2, [some (some 517), some (some 518), some (some 519), some (some 520)]), .inl (0, 8, 0, 0), .inl (0, 8, 0, 0), .inl (0, 8, 0, 0), .inl (1, 8, 0, 0), .inr (7, [none, none, none, none, none, none, none, some none, some (some 522)]), .inr (2, [some (some 523), some (some 524), some (some 525), some (some 526)]), .inl (0, 8, 0, 0), .inl (0, 8, 0, 0), .inl (0, 8, 0, 0), .inl (1, 8, 0, 0), .inr (7, [none, none, none, none, none, none, none, some none, some (some 528)])]
def zl_t33 : List zm_E := [.inr (2, [some (some 529), some (some 530), some (some 531), some (some 532)]), .inl (0, 8, 0, 0), .inl (0, 8, 0, 0), .inl (0, 8, 0, 0), .inl (1, 8, 0, 0), .inr (7, [none, none, none, none, none, none, none, some none, some (some 534)]), .inr (2, [some (some 535), some (some 536), some (some 537), some (some 538)]), .inl (0, 8, 0, 0), .inl (0, 8, 0, 0), .inl (0, 8, 0, 0), .inl (1, 8, 0, 0), .inr (8, [none, none, none, some (some 540), some (some 541)]), .inl (0, 3, 0, 0), .inl (1, 3, 0, 0), .inr (5, [none, some (some 543)]), .inl (1, 3, 0, 0)]
def zl_t34 : List zm_E := [.inr (5, [none, some (some 545)]), .inl (1, 3, 0, 0), .inr (9, [none, some (some 547), some (some 548), some (some 549), some (some 550), none, some (some 551), some (some 552), some (some 553), some (some 554), some (some 555), some (some 556), some (some 557), some (some 558), some (some 559), some (some 560), some (some 561), some (some 562), some (some 563), some (some 564), some (some 565), some (some 566), some (some 567), some (some 568), some (some 569), none, some (some 570), some (some 571)]), .inl (0, 7, 0, 0), .inl (3, 7, 0, 0), .inl (3, 7, 0, 0), .inl (0, 616, 0, 0), .inl (0, 420, 0, 0), .inl (0, 5280, 0, 0), .inl (0, 2, 0, 0), .inl (0, 2, 0, 0), .inl (0, 2, 0, 0), .inl (0, 1232, 0, 0), .inl (0, 48, 0, 0), .inl (0, 2, 0, 0), .inl (0, 16, 0, 0)]
def zl_t35 : List zm_E := [.inl (0, 16, 0, 0), .inl (0, 16, 0, 0), .inl (0, 16, 0, 0), .inl (0, 384, 0, 0), .inl (0, 510, 0, 0), .inl (0, 256, 0, 0), .inl (0, 3, 0, 0), .inl (0, 24, 0, 0), .inl (0, 3, 0, 0), .inl (0, 24, 0, 0), .inl (0, 7, 0, 0), .inl (0, 88, 0, 0), .inl (1, 1, 0, 0)]
def zl_tab : List (List zm_E) := [zl_t0, zl_t1, zl_t2, zl_t3, zl_t4, zl_t5, zl_t6, zl_t7, zl_t8, zl_t9, zl_t10, zl_t11, zl_t12, zl_t13, zl_t14, zl_t15, zl_t16, zl_t17, zl_t18, zl_t19, zl_t20, zl_t21, zl_t22, zl_t23, zl_t24, zl_t25, zl_t26, zl_t27, zl_t28, zl_t29, zl_t30, zl_t31, zl_t32, zl_t33, zl_t34, zl_t35]
def zl (r : Nat) : Option zm_E := (zl_tab[r / 16]?).bind (fun t => t[r % 16]?)
abbrev zl_St (r : Nat) : Prop := zl r = some (.inr (1, [none, none, none, some (some (r + 1))]))
def zl_Sh (r : Nat) : Prop := zl r = some (.inr (2, [some (some (r + 1)), some (some (r + 2)), some (some (r + 3)), some (some (r + 4))])) ∧ zl (r + 1) = some (.inl (0, 8, 0, 0)) ∧ zl (r + 2) = some (.inl (0, 8, 0, 0)) ∧ zl (r + 3) = some (.inl (0, 8, 0, 0)) ∧ zl (r + 4) = some (.inl (1, 8, 0, 0))
def zl_Re (r : Nat) : Prop := zl r = some (.inr (5, [none, some (some (r + 1))])) ∧ zl (r + 1) = some (.inl (1, 3, 0, 0))
def zl_Sp (r : Nat) : Prop := zl r = some (.inr (4, [none, none, none, some (some (r + 1))])) ∧ zl_Re (r + 1)
def zl_Le (r : Nat) : Prop := zl r = some (.inr (7, [none, none, none, none, none, none, none, some none, some (some (r + 1))])) ∧ zl_Sh (r + 1)
def zl_Pr (r : Nat) : Prop := zl r = some (.inr (3, [none, none, none, none, none, some (some (r + 1)), some (some (r + 2)), some (some (r + 3))])) ∧ zl (r + 1) = some (.inl (2, 24, 0, 0)) ∧ zl (r + 2) = some (.inl (6, 7, r + 4, 5)) ∧ zl (r + 3) = some (.inl (7, 8, r + 39, 3)) ∧ (∀ i, i < 7 → zl_Sh (r + 4 + 5 * i)) ∧ ∀ i, i < 8 → zl_Sp (r + 39 + 3 * i)

theorem zl_c0 : zl 0 = some (.inr (0, [some (some 1), some (some 44), some (some 171), some (some 539), some (some 542), some (some 544)])) := rfl
theorem zl_c1 : zl 1 = some (.inl (4, 7, 2, 6)) := rfl
theorem zl_c2 : zl 2 = some (.inr (1, [none, none, none, some (some 3)])) := rfl
theorem zl_c3 : zl 3 = some (.inr (2, [some (some 4), some (some 5), some (some 6), some (some 7)])) := rfl
theorem zl_c4 : zl 4 = some (.inl (0, 8, 0, 0)) := rfl
theorem zl_c5 : zl 5 = some (.inl (0, 8, 0, 0)) := rfl
theorem zl_c6 : zl 6 = some (.inl (0, 8, 0, 0)) := rfl
theorem zl_c7 : zl 7 = some (.inl (1, 8, 0, 0)) := rfl
theorem zl_c8 : zl 8 = some (.inr (1, [none, none, none, some (some 9)])) := rfl
theorem zl_c9 : zl 9 = some (.inr (2, [some (some 10), some (some 11), some (some 12), some (some 13)])) := rfl
theorem zl_c10 : zl 10 = some (.inl (0, 8, 0, 0)) := rfl
theorem zl_c11 : zl 11 = some (.inl (0, 8, 0, 0)) := rfl
theorem zl_c12 : zl 12 = some (.inl (0, 8, 0, 0)) := rfl
theorem zl_c13 : zl 13 = some (.inl (1, 8, 0, 0)) := rfl
theorem zl_c14 : zl 14 = some (.inr (1, [none, none, none, some (some 15)])) := rfl
theorem zl_c15 : zl 15 = some (.inr (2, [some (some 16), some (some 17), some (some 18), some (some 19)])) := rfl
theorem zl_c16 : zl 16 = some (.inl (0, 8, 0, 0)) := rfl
theorem zl_c17 : zl 17 = some (.inl (0, 8, 0, 0)) := rfl
theorem zl_c18 : zl 18 = some (.inl (0, 8, 0, 0)) := rfl
theorem zl_c19 : zl 19 = some (.inl (1, 8, 0, 0)) := rfl
theorem zl_c20 : zl 20 = some (.inr (1, [none, none, none, some (some 21)])) := rfl
theorem zl_c21 : zl 21 = some (.inr (2, [some (some 22), some (some 23), some (some 24), some (some 25)])) := rfl
theorem zl_c22 : zl 22 = some (.inl (0, 8, 0, 0)) := rfl
theorem zl_c23 : zl 23 = some (.inl (0, 8, 0, 0)) := rfl
theorem zl_c24 : zl 24 = some (.inl (0, 8, 0, 0)) := rfl
theorem zl_c25 : zl 25 = some (.inl (1, 8, 0, 0)) := rfl
theorem zl_c26 : zl 26 = some (.inr (1, [none, none, none, some (some 27)])) := rfl
theorem zl_c27 : zl 27 = some (.inr (2, [some (some 28), some (some 29), some (some 30), some (some 31)])) := rfl
theorem zl_c28 : zl 28 = some (.inl (0, 8, 0, 0)) := rfl
theorem zl_c29 : zl 29 = some (.inl (0, 8, 0, 0)) := rfl
theorem zl_c30 : zl 30 = some (.inl (0, 8, 0, 0)) := rfl
theorem zl_c31 : zl 31 = some (.inl (1, 8, 0, 0)) := rfl
theorem zl_c32 : zl 32 = some (.inr (1, [none, none, none, some (some 33)])) := rfl
theorem zl_c33 : zl 33 = some (.inr (2, [some (some 34), some (some 35), some (some 36), some (some 37)])) := rfl
theorem zl_c34 : zl 34 = some (.inl (0, 8, 0, 0)) := rfl
theorem zl_c35 : zl 35 = some (.inl (0, 8, 0, 0)) := rfl
theorem zl_c36 : zl 36 = some (.inl (0, 8, 0, 0)) := rfl
theorem zl_c37 : zl 37 = some (.inl (1, 8, 0, 0)) := rfl
theorem zl_c38 : zl 38 = some (.inr (1, [none, none, none, some (some 39)])) := rfl
theorem zl_c39 : zl 39 = some (.inr (2, [some (some 40), some (some 41), some (some 42), some (some 43)])) := rfl
theorem zl_c40 : zl 40 = some (.inl (0, 8, 0, 0)) := rfl
theorem zl_c41 : zl 41 = some (.inl (0, 8, 0, 0)) := rfl
theorem zl_c42 : zl 42 = some (.inl (0, 8, 0, 0)) := rfl
theorem zl_c43 : zl 43 = some (.inl (1, 8, 0, 0)) := rfl
theorem zl_c44 : zl 44 = some (.inl (5, 2, 45, 63)) := rfl
theorem zl_c45 : zl 45 = some (.inr (3, [none, none, none, none, none, some (some 46), some (some 47), some (some 48)])) := rfl
theorem zl_c46 : zl 46 = some (.inl (2, 24, 0, 0)) := rfl
theorem zl_c47 : zl 47 = some (.inl (6, 7, 49, 5)) := rfl
theorem zl_c48 : zl 48 = some (.inl (7, 8, 84, 3)) := rfl
theorem zl_c49 : zl 49 = some (.inr (2, [some (some 50), some (some 51), some (some 52), some (some 53)])) := rfl
theorem zl_c50 : zl 50 = some (.inl (0, 8, 0, 0)) := rfl
theorem zl_c51 : zl 51 = some (.inl (0, 8, 0, 0)) := rfl
theorem zl_c52 : zl 52 = some (.inl (0, 8, 0, 0)) := rfl
theorem zl_c53 : zl 53 = some (.inl (1, 8, 0, 0)) := rfl
theorem zl_c54 : zl 54 = some (.inr (2, [some (some 55), some (some 56), some (some 57), some (some 58)])) := rfl
theorem zl_c55 : zl 55 = some (.inl (0, 8, 0, 0)) := rfl
theorem zl_c56 : zl 56 = some (.inl (0, 8, 0, 0)) := rfl
theorem zl_c57 : zl 57 = some (.inl (0, 8, 0, 0)) := rfl
theorem zl_c58 : zl 58 = some (.inl (1, 8, 0, 0)) := rfl
theorem zl_c59 : zl 59 = some (.inr (2, [some (some 60), some (some 61), some (some 62), some (some 63)])) := rfl
theorem zl_c60 : zl 60 = some (.inl (0, 8, 0, 0)) := rfl
theorem zl_c61 : zl 61 = some (.inl (0, 8, 0, 0)) := rfl
theorem zl_c62 : zl 62 = some (.inl (0, 8, 0, 0)) := rfl
theorem zl_c63 : zl 63 = some (.inl (1, 8, 0, 0)) := rfl
theorem zl_c64 : zl 64 = some (.inr (2, [some (some 65), some (some 66), some (some 67), some (some 68)])) := rfl
theorem zl_c65 : zl 65 = some (.inl (0, 8, 0, 0)) := rfl
theorem zl_c66 : zl 66 = some (.inl (0, 8, 0, 0)) := rfl
theorem zl_c67 : zl 67 = some (.inl (0, 8, 0, 0)) := rfl
theorem zl_c68 : zl 68 = some (.inl (1, 8, 0, 0)) := rfl
theorem zl_c69 : zl 69 = some (.inr (2, [some (some 70), some (some 71), some (some 72), some (some 73)])) := rfl
theorem zl_c70 : zl 70 = some (.inl (0, 8, 0, 0)) := rfl
theorem zl_c71 : zl 71 = some (.inl (0, 8, 0, 0)) := rfl
theorem zl_c72 : zl 72 = some (.inl (0, 8, 0, 0)) := rfl
theorem zl_c73 : zl 73 = some (.inl (1, 8, 0, 0)) := rfl
theorem zl_c74 : zl 74 = some (.inr (2, [some (some 75), some (some 76), some (some 77), some (some 78)])) := rfl
theorem zl_c75 : zl 75 = some (.inl (0, 8, 0, 0)) := rfl
theorem zl_c76 : zl 76 = some (.inl (0, 8, 0, 0)) := rfl
theorem zl_c77 : zl 77 = some (.inl (0, 8, 0, 0)) := rfl
theorem zl_c78 : zl 78 = some (.inl (1, 8, 0, 0)) := rfl
theorem zl_c79 : zl 79 = some (.inr (2, [some (some 80), some (some 81), some (some 82), some (some 83)])) := rfl
theorem zl_c80 : zl 80 = some (.inl (0, 8, 0, 0)) := rfl
theorem zl_c81 : zl 81 = some (.inl (0, 8, 0, 0)) := rfl
theorem zl_c82 : zl 82 = some (.inl (0, 8, 0, 0)) := rfl
theorem zl_c83 : zl 83 = some (.inl (1, 8, 0, 0)) := rfl
theorem zl_c84 : zl 84 = some (.inr (4, [none, none, none, some (some 85)])) := rfl
theorem zl_c85 : zl 85 = some (.inr (5, [none, some (some 86)])) := rfl
theorem zl_c86 : zl 86 = some (.inl (1, 3, 0, 0)) := rfl
theorem zl_c87 : zl 87 = some (.inr (4, [none, none, none, some (some 88)])) := rfl
theorem zl_c88 : zl 88 = some (.inr (5, [none, some (some 89)])) := rfl
theorem zl_c89 : zl 89 = some (.inl (1, 3, 0, 0)) := rfl
theorem zl_c90 : zl 90 = some (.inr (4, [none, none, none, some (some 91)])) := rfl
theorem zl_c91 : zl 91 = some (.inr (5, [none, some (some 92)])) := rfl
theorem zl_c92 : zl 92 = some (.inl (1, 3, 0, 0)) := rfl
theorem zl_c93 : zl 93 = some (.inr (4, [none, none, none, some (some 94)])) := rfl
theorem zl_c94 : zl 94 = some (.inr (5, [none, some (some 95)])) := rfl
theorem zl_c95 : zl 95 = some (.inl (1, 3, 0, 0)) := rfl
theorem zl_c96 : zl 96 = some (.inr (4, [none, none, none, some (some 97)])) := rfl
theorem zl_c97 : zl 97 = some (.inr (5, [none, some (some 98)])) := rfl
theorem zl_c98 : zl 98 = some (.inl (1, 3, 0, 0)) := rfl
theorem zl_c99 : zl 99 = some (.inr (4, [none, none, none, some (some 100)])) := rfl
theorem zl_c100 : zl 100 = some (.inr (5, [none, some (some 101)])) := rfl
theorem zl_c101 : zl 101 = some (.inl (1, 3, 0, 0)) := rfl
theorem zl_c102 : zl 102 = some (.inr (4, [none, none, none, some (some 103)])) := rfl
theorem zl_c103 : zl 103 = some (.inr (5, [none, some (some 104)])) := rfl
theorem zl_c104 : zl 104 = some (.inl (1, 3, 0, 0)) := rfl
theorem zl_c105 : zl 105 = some (.inr (4, [none, none, none, some (some 106)])) := rfl
theorem zl_c106 : zl 106 = some (.inr (5, [none, some (some 107)])) := rfl
theorem zl_c107 : zl 107 = some (.inl (1, 3, 0, 0)) := rfl
theorem zl_c108 : zl 108 = some (.inr (3, [none, none, none, none, none, some (some 109), some (some 110), some (some 111)])) := rfl
theorem zl_c109 : zl 109 = some (.inl (2, 24, 0, 0)) := rfl
theorem zl_c110 : zl 110 = some (.inl (6, 7, 112, 5)) := rfl
theorem zl_c111 : zl 111 = some (.inl (7, 8, 147, 3)) := rfl
theorem zl_c112 : zl 112 = some (.inr (2, [some (some 113), some (some 114), some (some 115), some (some 116)])) := rfl
theorem zl_c113 : zl 113 = some (.inl (0, 8, 0, 0)) := rfl
theorem zl_c114 : zl 114 = some (.inl (0, 8, 0, 0)) := rfl
theorem zl_c115 : zl 115 = some (.inl (0, 8, 0, 0)) := rfl
theorem zl_c116 : zl 116 = some (.inl (1, 8, 0, 0)) := rfl
theorem zl_c117 : zl 117 = some (.inr (2, [some (some 118), some (some 119), some (some 120), some (some 121)])) := rfl
theorem zl_c118 : zl 118 = some (.inl (0, 8, 0, 0)) := rfl
theorem zl_c119 : zl 119 = some (.inl (0, 8, 0, 0)) := rfl
theorem zl_c120 : zl 120 = some (.inl (0, 8, 0, 0)) := rfl
theorem zl_c121 : zl 121 = some (.inl (1, 8, 0, 0)) := rfl
theorem zl_c122 : zl 122 = some (.inr (2, [some (some 123), some (some 124), some (some 125), some (some 126)])) := rfl
theorem zl_c123 : zl 123 = some (.inl (0, 8, 0, 0)) := rfl
theorem zl_c124 : zl 124 = some (.inl (0, 8, 0, 0)) := rfl
theorem zl_c125 : zl 125 = some (.inl (0, 8, 0, 0)) := rfl
theorem zl_c126 : zl 126 = some (.inl (1, 8, 0, 0)) := rfl
theorem zl_c127 : zl 127 = some (.inr (2, [some (some 128), some (some 129), some (some 130), some (some 131)])) := rfl
theorem zl_c128 : zl 128 = some (.inl (0, 8, 0, 0)) := rfl
theorem zl_c129 : zl 129 = some (.inl (0, 8, 0, 0)) := rfl
theorem zl_c130 : zl 130 = some (.inl (0, 8, 0, 0)) := rfl
theorem zl_c131 : zl 131 = some (.inl (1, 8, 0, 0)) := rfl
theorem zl_c132 : zl 132 = some (.inr (2, [some (some 133), some (some 134), some (some 135), some (some 136)])) := rfl
theorem zl_c133 : zl 133 = some (.inl (0, 8, 0, 0)) := rfl
theorem zl_c134 : zl 134 = some (.inl (0, 8, 0, 0)) := rfl
theorem zl_c135 : zl 135 = some (.inl (0, 8, 0, 0)) := rfl
theorem zl_c136 : zl 136 = some (.inl (1, 8, 0, 0)) := rfl
theorem zl_c137 : zl 137 = some (.inr (2, [some (some 138), some (some 139), some (some 140), some (some 141)])) := rfl
theorem zl_c138 : zl 138 = some (.inl (0, 8, 0, 0)) := rfl
theorem zl_c139 : zl 139 = some (.inl (0, 8, 0, 0)) := rfl
theorem zl_c140 : zl 140 = some (.inl (0, 8, 0, 0)) := rfl
theorem zl_c141 : zl 141 = some (.inl (1, 8, 0, 0)) := rfl
theorem zl_c142 : zl 142 = some (.inr (2, [some (some 143), some (some 144), some (some 145), some (some 146)])) := rfl
theorem zl_c143 : zl 143 = some (.inl (0, 8, 0, 0)) := rfl
theorem zl_c144 : zl 144 = some (.inl (0, 8, 0, 0)) := rfl
theorem zl_c145 : zl 145 = some (.inl (0, 8, 0, 0)) := rfl
theorem zl_c146 : zl 146 = some (.inl (1, 8, 0, 0)) := rfl
theorem zl_c147 : zl 147 = some (.inr (4, [none, none, none, some (some 148)])) := rfl
theorem zl_c148 : zl 148 = some (.inr (5, [none, some (some 149)])) := rfl
theorem zl_c149 : zl 149 = some (.inl (1, 3, 0, 0)) := rfl
theorem zl_c150 : zl 150 = some (.inr (4, [none, none, none, some (some 151)])) := rfl
theorem zl_c151 : zl 151 = some (.inr (5, [none, some (some 152)])) := rfl
theorem zl_c152 : zl 152 = some (.inl (1, 3, 0, 0)) := rfl
theorem zl_c153 : zl 153 = some (.inr (4, [none, none, none, some (some 154)])) := rfl
theorem zl_c154 : zl 154 = some (.inr (5, [none, some (some 155)])) := rfl
theorem zl_c155 : zl 155 = some (.inl (1, 3, 0, 0)) := rfl
theorem zl_c156 : zl 156 = some (.inr (4, [none, none, none, some (some 157)])) := rfl
theorem zl_c157 : zl 157 = some (.inr (5, [none, some (some 158)])) := rfl
theorem zl_c158 : zl 158 = some (.inl (1, 3, 0, 0)) := rfl
theorem zl_c159 : zl 159 = some (.inr (4, [none, none, none, some (some 160)])) := rfl
theorem zl_c160 : zl 160 = some (.inr (5, [none, some (some 161)])) := rfl
theorem zl_c161 : zl 161 = some (.inl (1, 3, 0, 0)) := rfl
theorem zl_c162 : zl 162 = some (.inr (4, [none, none, none, some (some 163)])) := rfl
theorem zl_c163 : zl 163 = some (.inr (5, [none, some (some 164)])) := rfl
theorem zl_c164 : zl 164 = some (.inl (1, 3, 0, 0)) := rfl
theorem zl_c165 : zl 165 = some (.inr (4, [none, none, none, some (some 166)])) := rfl
theorem zl_c166 : zl 166 = some (.inr (5, [none, some (some 167)])) := rfl
theorem zl_c167 : zl 167 = some (.inl (1, 3, 0, 0)) := rfl
theorem zl_c168 : zl 168 = some (.inr (4, [none, none, none, some (some 169)])) := rfl
theorem zl_c169 : zl 169 = some (.inr (5, [none, some (some 170)])) := rfl
theorem zl_c170 : zl 170 = some (.inl (1, 3, 0, 0)) := rfl
theorem zl_c171 : zl 171 = some (.inr (6, [none, some (some 172)])) := rfl
theorem zl_c172 : zl 172 = some (.inl (8, 61, 0, 0)) := rfl
theorem zl_c173 : zl 173 = some (.inr (7, [none, none, none, none, none, none, none, some none, some (some 174)])) := rfl
theorem zl_c174 : zl 174 = some (.inr (2, [some (some 175), some (some 176), some (some 177), some (some 178)])) := rfl
theorem zl_c175 : zl 175 = some (.inl (0, 8, 0, 0)) := rfl
theorem zl_c176 : zl 176 = some (.inl (0, 8, 0, 0)) := rfl
theorem zl_c177 : zl 177 = some (.inl (0, 8, 0, 0)) := rfl
theorem zl_c178 : zl 178 = some (.inl (1, 8, 0, 0)) := rfl
theorem zl_c179 : zl 179 = some (.inr (7, [none, none, none, none, none, none, none, some none, some (some 180)])) := rfl
theorem zl_c180 : zl 180 = some (.inr (2, [some (some 181), some (some 182), some (some 183), some (some 184)])) := rfl
theorem zl_c181 : zl 181 = some (.inl (0, 8, 0, 0)) := rfl
theorem zl_c182 : zl 182 = some (.inl (0, 8, 0, 0)) := rfl
theorem zl_c183 : zl 183 = some (.inl (0, 8, 0, 0)) := rfl
theorem zl_c184 : zl 184 = some (.inl (1, 8, 0, 0)) := rfl
theorem zl_c185 : zl 185 = some (.inr (7, [none, none, none, none, none, none, none, some none, some (some 186)])) := rfl
theorem zl_c186 : zl 186 = some (.inr (2, [some (some 187), some (some 188), some (some 189), some (some 190)])) := rfl
theorem zl_c187 : zl 187 = some (.inl (0, 8, 0, 0)) := rfl
theorem zl_c188 : zl 188 = some (.inl (0, 8, 0, 0)) := rfl
theorem zl_c189 : zl 189 = some (.inl (0, 8, 0, 0)) := rfl
theorem zl_c190 : zl 190 = some (.inl (1, 8, 0, 0)) := rfl
theorem zl_c191 : zl 191 = some (.inr (7, [none, none, none, none, none, none, none, some none, some (some 192)])) := rfl
theorem zl_c192 : zl 192 = some (.inr (2, [some (some 193), some (some 194), some (some 195), some (some 196)])) := rfl
theorem zl_c193 : zl 193 = some (.inl (0, 8, 0, 0)) := rfl
theorem zl_c194 : zl 194 = some (.inl (0, 8, 0, 0)) := rfl
theorem zl_c195 : zl 195 = some (.inl (0, 8, 0, 0)) := rfl
theorem zl_c196 : zl 196 = some (.inl (1, 8, 0, 0)) := rfl
theorem zl_c197 : zl 197 = some (.inr (7, [none, none, none, none, none, none, none, some none, some (some 198)])) := rfl
theorem zl_c198 : zl 198 = some (.inr (2, [some (some 199), some (some 200), some (some 201), some (some 202)])) := rfl
theorem zl_c199 : zl 199 = some (.inl (0, 8, 0, 0)) := rfl
theorem zl_c200 : zl 200 = some (.inl (0, 8, 0, 0)) := rfl
theorem zl_c201 : zl 201 = some (.inl (0, 8, 0, 0)) := rfl
theorem zl_c202 : zl 202 = some (.inl (1, 8, 0, 0)) := rfl
theorem zl_c203 : zl 203 = some (.inr (7, [none, none, none, none, none, none, none, some none, some (some 204)])) := rfl
theorem zl_c204 : zl 204 = some (.inr (2, [some (some 205), some (some 206), some (some 207), some (some 208)])) := rfl
theorem zl_c205 : zl 205 = some (.inl (0, 8, 0, 0)) := rfl
theorem zl_c206 : zl 206 = some (.inl (0, 8, 0, 0)) := rfl
theorem zl_c207 : zl 207 = some (.inl (0, 8, 0, 0)) := rfl
theorem zl_c208 : zl 208 = some (.inl (1, 8, 0, 0)) := rfl
theorem zl_c209 : zl 209 = some (.inr (7, [none, none, none, none, none, none, none, some none, some (some 210)])) := rfl
theorem zl_c210 : zl 210 = some (.inr (2, [some (some 211), some (some 212), some (some 213), some (some 214)])) := rfl
theorem zl_c211 : zl 211 = some (.inl (0, 8, 0, 0)) := rfl
theorem zl_c212 : zl 212 = some (.inl (0, 8, 0, 0)) := rfl
theorem zl_c213 : zl 213 = some (.inl (0, 8, 0, 0)) := rfl
theorem zl_c214 : zl 214 = some (.inl (1, 8, 0, 0)) := rfl
theorem zl_c215 : zl 215 = some (.inr (7, [none, none, none, none, none, none, none, some none, some (some 216)])) := rfl
theorem zl_c216 : zl 216 = some (.inr (2, [some (some 217), some (some 218), some (some 219), some (some 220)])) := rfl
theorem zl_c217 : zl 217 = some (.inl (0, 8, 0, 0)) := rfl
theorem zl_c218 : zl 218 = some (.inl (0, 8, 0, 0)) := rfl
theorem zl_c219 : zl 219 = some (.inl (0, 8, 0, 0)) := rfl
theorem zl_c220 : zl 220 = some (.inl (1, 8, 0, 0)) := rfl
theorem zl_c221 : zl 221 = some (.inr (7, [none, none, none, none, none, none, none, some none, some (some 222)])) := rfl
theorem zl_c222 : zl 222 = some (.inr (2, [some (some 223), some (some 224), some (some 225), some (some 226)])) := rfl
theorem zl_c223 : zl 223 = some (.inl (0, 8, 0, 0)) := rfl
theorem zl_c224 : zl 224 = some (.inl (0, 8, 0, 0)) := rfl
theorem zl_c225 : zl 225 = some (.inl (0, 8, 0, 0)) := rfl
theorem zl_c226 : zl 226 = some (.inl (1, 8, 0, 0)) := rfl
theorem zl_c227 : zl 227 = some (.inr (7, [none, none, none, none, none, none, none, some none, some (some 228)])) := rfl
theorem zl_c228 : zl 228 = some (.inr (2, [some (some 229), some (some 230), some (some 231), some (some 232)])) := rfl
theorem zl_c229 : zl 229 = some (.inl (0, 8, 0, 0)) := rfl
theorem zl_c230 : zl 230 = some (.inl (0, 8, 0, 0)) := rfl
theorem zl_c231 : zl 231 = some (.inl (0, 8, 0, 0)) := rfl
theorem zl_c232 : zl 232 = some (.inl (1, 8, 0, 0)) := rfl
theorem zl_c233 : zl 233 = some (.inr (7, [none, none, none, none, none, none, none, some none, some (some 234)])) := rfl
theorem zl_c234 : zl 234 = some (.inr (2, [some (some 235), some (some 236), some (some 237), some (some 238)])) := rfl
theorem zl_c235 : zl 235 = some (.inl (0, 8, 0, 0)) := rfl
theorem zl_c236 : zl 236 = some (.inl (0, 8, 0, 0)) := rfl
theorem zl_c237 : zl 237 = some (.inl (0, 8, 0, 0)) := rfl
theorem zl_c238 : zl 238 = some (.inl (1, 8, 0, 0)) := rfl
theorem zl_c239 : zl 239 = some (.inr (7, [none, none, none, none, none, none, none, some none, some (some 240)])) := rfl
theorem zl_c240 : zl 240 = some (.inr (2, [some (some 241), some (some 242), some (some 243), some (some 244)])) := rfl
theorem zl_c241 : zl 241 = some (.inl (0, 8, 0, 0)) := rfl
theorem zl_c242 : zl 242 = some (.inl (0, 8, 0, 0)) := rfl
theorem zl_c243 : zl 243 = some (.inl (0, 8, 0, 0)) := rfl
theorem zl_c244 : zl 244 = some (.inl (1, 8, 0, 0)) := rfl
theorem zl_c245 : zl 245 = some (.inr (7, [none, none, none, none, none, none, none, some none, some (some 246)])) := rfl
theorem zl_c246 : zl 246 = some (.inr (2, [some (some 247), some (some 248), some (some 249), some (some 250)])) := rfl
theorem zl_c247 : zl 247 = some (.inl (0, 8, 0, 0)) := rfl
theorem zl_c248 : zl 248 = some (.inl (0, 8, 0, 0)) := rfl
theorem zl_c249 : zl 249 = some (.inl (0, 8, 0, 0)) := rfl
theorem zl_c250 : zl 250 = some (.inl (1, 8, 0, 0)) := rfl
theorem zl_c251 : zl 251 = some (.inr (7, [none, none, none, none, none, none, none, some none, some (some 252)])) := rfl
theorem zl_c252 : zl 252 = some (.inr (2, [some (some 253), some (some 254), some (some 255), some (some 256)])) := rfl
theorem zl_c253 : zl 253 = some (.inl (0, 8, 0, 0)) := rfl
theorem zl_c254 : zl 254 = some (.inl (0, 8, 0, 0)) := rfl
theorem zl_c255 : zl 255 = some (.inl (0, 8, 0, 0)) := rfl
theorem zl_c256 : zl 256 = some (.inl (1, 8, 0, 0)) := rfl
theorem zl_c257 : zl 257 = some (.inr (7, [none, none, none, none, none, none, none, some none, some (some 258)])) := rfl
theorem zl_c258 : zl 258 = some (.inr (2, [some (some 259), some (some 260), some (some 261), some (some 262)])) := rfl
theorem zl_c259 : zl 259 = some (.inl (0, 8, 0, 0)) := rfl
theorem zl_c260 : zl 260 = some (.inl (0, 8, 0, 0)) := rfl
theorem zl_c261 : zl 261 = some (.inl (0, 8, 0, 0)) := rfl
theorem zl_c262 : zl 262 = some (.inl (1, 8, 0, 0)) := rfl
theorem zl_c263 : zl 263 = some (.inr (7, [none, none, none, none, none, none, none, some none, some (some 264)])) := rfl
theorem zl_c264 : zl 264 = some (.inr (2, [some (some 265), some (some 266), some (some 267), some (some 268)])) := rfl
theorem zl_c265 : zl 265 = some (.inl (0, 8, 0, 0)) := rfl
theorem zl_c266 : zl 266 = some (.inl (0, 8, 0, 0)) := rfl
theorem zl_c267 : zl 267 = some (.inl (0, 8, 0, 0)) := rfl
theorem zl_c268 : zl 268 = some (.inl (1, 8, 0, 0)) := rfl
theorem zl_c269 : zl 269 = some (.inr (7, [none, none, none, none, none, none, none, some none, some (some 270)])) := rfl
theorem zl_c270 : zl 270 = some (.inr (2, [some (some 271), some (some 272), some (some 273), some (some 274)])) := rfl
theorem zl_c271 : zl 271 = some (.inl (0, 8, 0, 0)) := rfl
theorem zl_c272 : zl 272 = some (.inl (0, 8, 0, 0)) := rfl
theorem zl_c273 : zl 273 = some (.inl (0, 8, 0, 0)) := rfl
theorem zl_c274 : zl 274 = some (.inl (1, 8, 0, 0)) := rfl
theorem zl_c275 : zl 275 = some (.inr (7, [none, none, none, none, none, none, none, some none, some (some 276)])) := rfl
theorem zl_c276 : zl 276 = some (.inr (2, [some (some 277), some (some 278), some (some 279), some (some 280)])) := rfl
theorem zl_c277 : zl 277 = some (.inl (0, 8, 0, 0)) := rfl
theorem zl_c278 : zl 278 = some (.inl (0, 8, 0, 0)) := rfl
theorem zl_c279 : zl 279 = some (.inl (0, 8, 0, 0)) := rfl
theorem zl_c280 : zl 280 = some (.inl (1, 8, 0, 0)) := rfl
theorem zl_c281 : zl 281 = some (.inr (7, [none, none, none, none, none, none, none, some none, some (some 282)])) := rfl
theorem zl_c282 : zl 282 = some (.inr (2, [some (some 283), some (some 284), some (some 285), some (some 286)])) := rfl
theorem zl_c283 : zl 283 = some (.inl (0, 8, 0, 0)) := rfl
theorem zl_c284 : zl 284 = some (.inl (0, 8, 0, 0)) := rfl
theorem zl_c285 : zl 285 = some (.inl (0, 8, 0, 0)) := rfl
theorem zl_c286 : zl 286 = some (.inl (1, 8, 0, 0)) := rfl
theorem zl_c287 : zl 287 = some (.inr (7, [none, none, none, none, none, none, none, some none, some (some 288)])) := rfl
theorem zl_c288 : zl 288 = some (.inr (2, [some (some 289), some (some 290), some (some 291), some (some 292)])) := rfl
theorem zl_c289 : zl 289 = some (.inl (0, 8, 0, 0)) := rfl
theorem zl_c290 : zl 290 = some (.inl (0, 8, 0, 0)) := rfl
theorem zl_c291 : zl 291 = some (.inl (0, 8, 0, 0)) := rfl
theorem zl_c292 : zl 292 = some (.inl (1, 8, 0, 0)) := rfl
theorem zl_c293 : zl 293 = some (.inr (7, [none, none, none, none, none, none, none, some none, some (some 294)])) := rfl
theorem zl_c294 : zl 294 = some (.inr (2, [some (some 295), some (some 296), some (some 297), some (some 298)])) := rfl
theorem zl_c295 : zl 295 = some (.inl (0, 8, 0, 0)) := rfl
theorem zl_c296 : zl 296 = some (.inl (0, 8, 0, 0)) := rfl
theorem zl_c297 : zl 297 = some (.inl (0, 8, 0, 0)) := rfl
theorem zl_c298 : zl 298 = some (.inl (1, 8, 0, 0)) := rfl
theorem zl_c299 : zl 299 = some (.inr (7, [none, none, none, none, none, none, none, some none, some (some 300)])) := rfl
theorem zl_c300 : zl 300 = some (.inr (2, [some (some 301), some (some 302), some (some 303), some (some 304)])) := rfl
theorem zl_c301 : zl 301 = some (.inl (0, 8, 0, 0)) := rfl
theorem zl_c302 : zl 302 = some (.inl (0, 8, 0, 0)) := rfl
theorem zl_c303 : zl 303 = some (.inl (0, 8, 0, 0)) := rfl
theorem zl_c304 : zl 304 = some (.inl (1, 8, 0, 0)) := rfl
theorem zl_c305 : zl 305 = some (.inr (7, [none, none, none, none, none, none, none, some none, some (some 306)])) := rfl
theorem zl_c306 : zl 306 = some (.inr (2, [some (some 307), some (some 308), some (some 309), some (some 310)])) := rfl
theorem zl_c307 : zl 307 = some (.inl (0, 8, 0, 0)) := rfl
theorem zl_c308 : zl 308 = some (.inl (0, 8, 0, 0)) := rfl
theorem zl_c309 : zl 309 = some (.inl (0, 8, 0, 0)) := rfl
theorem zl_c310 : zl 310 = some (.inl (1, 8, 0, 0)) := rfl
theorem zl_c311 : zl 311 = some (.inr (7, [none, none, none, none, none, none, none, some none, some (some 312)])) := rfl
theorem zl_c312 : zl 312 = some (.inr (2, [some (some 313), some (some 314), some (some 315), some (some 316)])) := rfl
theorem zl_c313 : zl 313 = some (.inl (0, 8, 0, 0)) := rfl
theorem zl_c314 : zl 314 = some (.inl (0, 8, 0, 0)) := rfl
theorem zl_c315 : zl 315 = some (.inl (0, 8, 0, 0)) := rfl
theorem zl_c316 : zl 316 = some (.inl (1, 8, 0, 0)) := rfl
theorem zl_c317 : zl 317 = some (.inr (7, [none, none, none, none, none, none, none, some none, some (some 318)])) := rfl
theorem zl_c318 : zl 318 = some (.inr (2, [some (some 319), some (some 320), some (some 321), some (some 322)])) := rfl
theorem zl_c319 : zl 319 = some (.inl (0, 8, 0, 0)) := rfl
theorem zl_c320 : zl 320 = some (.inl (0, 8, 0, 0)) := rfl
theorem zl_c321 : zl 321 = some (.inl (0, 8, 0, 0)) := rfl
theorem zl_c322 : zl 322 = some (.inl (1, 8, 0, 0)) := rfl
theorem zl_c323 : zl 323 = some (.inr (7, [none, none, none, none, none, none, none, some none, some (some 324)])) := rfl
theorem zl_c324 : zl 324 = some (.inr (2, [some (some 325), some (some 326), some (some 327), some (some 328)])) := rfl
theorem zl_c325 : zl 325 = some (.inl (0, 8, 0, 0)) := rfl
theorem zl_c326 : zl 326 = some (.inl (0, 8, 0, 0)) := rfl
theorem zl_c327 : zl 327 = some (.inl (0, 8, 0, 0)) := rfl
theorem zl_c328 : zl 328 = some (.inl (1, 8, 0, 0)) := rfl
theorem zl_c329 : zl 329 = some (.inr (7, [none, none, none, none, none, none, none, some none, some (some 330)])) := rfl
theorem zl_c330 : zl 330 = some (.inr (2, [some (some 331), some (some 332), some (some 333), some (some 334)])) := rfl
theorem zl_c331 : zl 331 = some (.inl (0, 8, 0, 0)) := rfl
theorem zl_c332 : zl 332 = some (.inl (0, 8, 0, 0)) := rfl
theorem zl_c333 : zl 333 = some (.inl (0, 8, 0, 0)) := rfl
theorem zl_c334 : zl 334 = some (.inl (1, 8, 0, 0)) := rfl
theorem zl_c335 : zl 335 = some (.inr (7, [none, none, none, none, none, none, none, some none, some (some 336)])) := rfl
theorem zl_c336 : zl 336 = some (.inr (2, [some (some 337), some (some 338), some (some 339), some (some 340)])) := rfl
theorem zl_c337 : zl 337 = some (.inl (0, 8, 0, 0)) := rfl
theorem zl_c338 : zl 338 = some (.inl (0, 8, 0, 0)) := rfl
theorem zl_c339 : zl 339 = some (.inl (0, 8, 0, 0)) := rfl
theorem zl_c340 : zl 340 = some (.inl (1, 8, 0, 0)) := rfl
theorem zl_c341 : zl 341 = some (.inr (7, [none, none, none, none, none, none, none, some none, some (some 342)])) := rfl
theorem zl_c342 : zl 342 = some (.inr (2, [some (some 343), some (some 344), some (some 345), some (some 346)])) := rfl
theorem zl_c343 : zl 343 = some (.inl (0, 8, 0, 0)) := rfl
theorem zl_c344 : zl 344 = some (.inl (0, 8, 0, 0)) := rfl
theorem zl_c345 : zl 345 = some (.inl (0, 8, 0, 0)) := rfl
theorem zl_c346 : zl 346 = some (.inl (1, 8, 0, 0)) := rfl
theorem zl_c347 : zl 347 = some (.inr (7, [none, none, none, none, none, none, none, some none, some (some 348)])) := rfl
theorem zl_c348 : zl 348 = some (.inr (2, [some (some 349), some (some 350), some (some 351), some (some 352)])) := rfl
theorem zl_c349 : zl 349 = some (.inl (0, 8, 0, 0)) := rfl
theorem zl_c350 : zl 350 = some (.inl (0, 8, 0, 0)) := rfl
theorem zl_c351 : zl 351 = some (.inl (0, 8, 0, 0)) := rfl
theorem zl_c352 : zl 352 = some (.inl (1, 8, 0, 0)) := rfl
theorem zl_c353 : zl 353 = some (.inr (7, [none, none, none, none, none, none, none, some none, some (some 354)])) := rfl
theorem zl_c354 : zl 354 = some (.inr (2, [some (some 355), some (some 356), some (some 357), some (some 358)])) := rfl
theorem zl_c355 : zl 355 = some (.inl (0, 8, 0, 0)) := rfl
theorem zl_c356 : zl 356 = some (.inl (0, 8, 0, 0)) := rfl
theorem zl_c357 : zl 357 = some (.inl (0, 8, 0, 0)) := rfl
theorem zl_c358 : zl 358 = some (.inl (1, 8, 0, 0)) := rfl
theorem zl_c359 : zl 359 = some (.inr (7, [none, none, none, none, none, none, none, some none, some (some 360)])) := rfl
theorem zl_c360 : zl 360 = some (.inr (2, [some (some 361), some (some 362), some (some 363), some (some 364)])) := rfl
theorem zl_c361 : zl 361 = some (.inl (0, 8, 0, 0)) := rfl
theorem zl_c362 : zl 362 = some (.inl (0, 8, 0, 0)) := rfl
theorem zl_c363 : zl 363 = some (.inl (0, 8, 0, 0)) := rfl
theorem zl_c364 : zl 364 = some (.inl (1, 8, 0, 0)) := rfl
theorem zl_c365 : zl 365 = some (.inr (7, [none, none, none, none, none, none, none, some none, some (some 366)])) := rfl
theorem zl_c366 : zl 366 = some (.inr (2, [some (some 367), some (some 368), some (some 369), some (some 370)])) := rfl
theorem zl_c367 : zl 367 = some (.inl (0, 8, 0, 0)) := rfl
theorem zl_c368 : zl 368 = some (.inl (0, 8, 0, 0)) := rfl
theorem zl_c369 : zl 369 = some (.inl (0, 8, 0, 0)) := rfl
theorem zl_c370 : zl 370 = some (.inl (1, 8, 0, 0)) := rfl
theorem zl_c371 : zl 371 = some (.inr (7, [none, none, none, none, none, none, none, some none, some (some 372)])) := rfl
theorem zl_c372 : zl 372 = some (.inr (2, [some (some 373), some (some 374), some (some 375), some (some 376)])) := rfl
theorem zl_c373 : zl 373 = some (.inl (0, 8, 0, 0)) := rfl
theorem zl_c374 : zl 374 = some (.inl (0, 8, 0, 0)) := rfl
theorem zl_c375 : zl 375 = some (.inl (0, 8, 0, 0)) := rfl
theorem zl_c376 : zl 376 = some (.inl (1, 8, 0, 0)) := rfl
theorem zl_c377 : zl 377 = some (.inr (7, [none, none, none, none, none, none, none, some none, some (some 378)])) := rfl
theorem zl_c378 : zl 378 = some (.inr (2, [some (some 379), some (some 380), some (some 381), some (some 382)])) := rfl
theorem zl_c379 : zl 379 = some (.inl (0, 8, 0, 0)) := rfl
theorem zl_c380 : zl 380 = some (.inl (0, 8, 0, 0)) := rfl
theorem zl_c381 : zl 381 = some (.inl (0, 8, 0, 0)) := rfl
theorem zl_c382 : zl 382 = some (.inl (1, 8, 0, 0)) := rfl
theorem zl_c383 : zl 383 = some (.inr (7, [none, none, none, none, none, none, none, some none, some (some 384)])) := rfl
theorem zl_c384 : zl 384 = some (.inr (2, [some (some 385), some (some 386), some (some 387), some (some 388)])) := rfl
theorem zl_c385 : zl 385 = some (.inl (0, 8, 0, 0)) := rfl
theorem zl_c386 : zl 386 = some (.inl (0, 8, 0, 0)) := rfl
theorem zl_c387 : zl 387 = some (.inl (0, 8, 0, 0)) := rfl
theorem zl_c388 : zl 388 = some (.inl (1, 8, 0, 0)) := rfl
theorem zl_c389 : zl 389 = some (.inr (7, [none, none, none, none, none, none, none, some none, some (some 390)])) := rfl
theorem zl_c390 : zl 390 = some (.inr (2, [some (some 391), some (some 392), some (some 393), some (some 394)])) := rfl
theorem zl_c391 : zl 391 = some (.inl (0, 8, 0, 0)) := rfl
theorem zl_c392 : zl 392 = some (.inl (0, 8, 0, 0)) := rfl
theorem zl_c393 : zl 393 = some (.inl (0, 8, 0, 0)) := rfl
theorem zl_c394 : zl 394 = some (.inl (1, 8, 0, 0)) := rfl
theorem zl_c395 : zl 395 = some (.inr (7, [none, none, none, none, none, none, none, some none, some (some 396)])) := rfl
theorem zl_c396 : zl 396 = some (.inr (2, [some (some 397), some (some 398), some (some 399), some (some 400)])) := rfl
theorem zl_c397 : zl 397 = some (.inl (0, 8, 0, 0)) := rfl
theorem zl_c398 : zl 398 = some (.inl (0, 8, 0, 0)) := rfl
theorem zl_c399 : zl 399 = some (.inl (0, 8, 0, 0)) := rfl
theorem zl_c400 : zl 400 = some (.inl (1, 8, 0, 0)) := rfl
theorem zl_c401 : zl 401 = some (.inr (7, [none, none, none, none, none, none, none, some none, some (some 402)])) := rfl
theorem zl_c402 : zl 402 = some (.inr (2, [some (some 403), some (some 404), some (some 405), some (some 406)])) := rfl
theorem zl_c403 : zl 403 = some (.inl (0, 8, 0, 0)) := rfl
theorem zl_c404 : zl 404 = some (.inl (0, 8, 0, 0)) := rfl
theorem zl_c405 : zl 405 = some (.inl (0, 8, 0, 0)) := rfl
theorem zl_c406 : zl 406 = some (.inl (1, 8, 0, 0)) := rfl
theorem zl_c407 : zl 407 = some (.inr (7, [none, none, none, none, none, none, none, some none, some (some 408)])) := rfl
theorem zl_c408 : zl 408 = some (.inr (2, [some (some 409), some (some 410), some (some 411), some (some 412)])) := rfl
theorem zl_c409 : zl 409 = some (.inl (0, 8, 0, 0)) := rfl
theorem zl_c410 : zl 410 = some (.inl (0, 8, 0, 0)) := rfl
theorem zl_c411 : zl 411 = some (.inl (0, 8, 0, 0)) := rfl
theorem zl_c412 : zl 412 = some (.inl (1, 8, 0, 0)) := rfl
theorem zl_c413 : zl 413 = some (.inr (7, [none, none, none, none, none, none, none, some none, some (some 414)])) := rfl
theorem zl_c414 : zl 414 = some (.inr (2, [some (some 415), some (some 416), some (some 417), some (some 418)])) := rfl
theorem zl_c415 : zl 415 = some (.inl (0, 8, 0, 0)) := rfl
theorem zl_c416 : zl 416 = some (.inl (0, 8, 0, 0)) := rfl
theorem zl_c417 : zl 417 = some (.inl (0, 8, 0, 0)) := rfl
theorem zl_c418 : zl 418 = some (.inl (1, 8, 0, 0)) := rfl
theorem zl_c419 : zl 419 = some (.inr (7, [none, none, none, none, none, none, none, some none, some (some 420)])) := rfl
theorem zl_c420 : zl 420 = some (.inr (2, [some (some 421), some (some 422), some (some 423), some (some 424)])) := rfl
theorem zl_c421 : zl 421 = some (.inl (0, 8, 0, 0)) := rfl
theorem zl_c422 : zl 422 = some (.inl (0, 8, 0, 0)) := rfl
theorem zl_c423 : zl 423 = some (.inl (0, 8, 0, 0)) := rfl
theorem zl_c424 : zl 424 = some (.inl (1, 8, 0, 0)) := rfl
theorem zl_c425 : zl 425 = some (.inr (7, [none, none, none, none, none, none, none, some none, some (some 426)])) := rfl
theorem zl_c426 : zl 426 = some (.inr (2, [some (some 427), some (some 428), some (some 429), some (some 430)])) := rfl
theorem zl_c427 : zl 427 = some (.inl (0, 8, 0, 0)) := rfl
theorem zl_c428 : zl 428 = some (.inl (0, 8, 0, 0)) := rfl
theorem zl_c429 : zl 429 = some (.inl (0, 8, 0, 0)) := rfl
theorem zl_c430 : zl 430 = some (.inl (1, 8, 0, 0)) := rfl
theorem zl_c431 : zl 431 = some (.inr (7, [none, none, none, none, none, none, none, some none, some (some 432)])) := rfl
theorem zl_c432 : zl 432 = some (.inr (2, [some (some 433), some (some 434), some (some 435), some (some 436)])) := rfl
theorem zl_c433 : zl 433 = some (.inl (0, 8, 0, 0)) := rfl
theorem zl_c434 : zl 434 = some (.inl (0, 8, 0, 0)) := rfl
theorem zl_c435 : zl 435 = some (.inl (0, 8, 0, 0)) := rfl
theorem zl_c436 : zl 436 = some (.inl (1, 8, 0, 0)) := rfl
theorem zl_c437 : zl 437 = some (.inr (7, [none, none, none, none, none, none, none, some none, some (some 438)])) := rfl
theorem zl_c438 : zl 438 = some (.inr (2, [some (some 439), some (some 440), some (some 441), some (some 442)])) := rfl
theorem zl_c439 : zl 439 = some (.inl (0, 8, 0, 0)) := rfl
theorem zl_c440 : zl 440 = some (.inl (0, 8, 0, 0)) := rfl
theorem zl_c441 : zl 441 = some (.inl (0, 8, 0, 0)) := rfl
theorem zl_c442 : zl 442 = some (.inl (1, 8, 0, 0)) := rfl
theorem zl_c443 : zl 443 = some (.inr (7, [none, none, none, none, none, none, none, some none, some (some 444)])) := rfl
theorem zl_c444 : zl 444 = some (.inr (2, [some (some 445), some (some 446), some (some 447), some (some 448)])) := rfl
theorem zl_c445 : zl 445 = some (.inl (0, 8, 0, 0)) := rfl
theorem zl_c446 : zl 446 = some (.inl (0, 8, 0, 0)) := rfl
theorem zl_c447 : zl 447 = some (.inl (0, 8, 0, 0)) := rfl
theorem zl_c448 : zl 448 = some (.inl (1, 8, 0, 0)) := rfl
theorem zl_c449 : zl 449 = some (.inr (7, [none, none, none, none, none, none, none, some none, some (some 450)])) := rfl
theorem zl_c450 : zl 450 = some (.inr (2, [some (some 451), some (some 452), some (some 453), some (some 454)])) := rfl
theorem zl_c451 : zl 451 = some (.inl (0, 8, 0, 0)) := rfl
theorem zl_c452 : zl 452 = some (.inl (0, 8, 0, 0)) := rfl
theorem zl_c453 : zl 453 = some (.inl (0, 8, 0, 0)) := rfl
theorem zl_c454 : zl 454 = some (.inl (1, 8, 0, 0)) := rfl
theorem zl_c455 : zl 455 = some (.inr (7, [none, none, none, none, none, none, none, some none, some (some 456)])) := rfl
theorem zl_c456 : zl 456 = some (.inr (2, [some (some 457), some (some 458), some (some 459), some (some 460)])) := rfl
theorem zl_c457 : zl 457 = some (.inl (0, 8, 0, 0)) := rfl
theorem zl_c458 : zl 458 = some (.inl (0, 8, 0, 0)) := rfl
theorem zl_c459 : zl 459 = some (.inl (0, 8, 0, 0)) := rfl
theorem zl_c460 : zl 460 = some (.inl (1, 8, 0, 0)) := rfl
theorem zl_c461 : zl 461 = some (.inr (7, [none, none, none, none, none, none, none, some none, some (some 462)])) := rfl
theorem zl_c462 : zl 462 = some (.inr (2, [some (some 463), some (some 464), some (some 465), some (some 466)])) := rfl
theorem zl_c463 : zl 463 = some (.inl (0, 8, 0, 0)) := rfl
theorem zl_c464 : zl 464 = some (.inl (0, 8, 0, 0)) := rfl
theorem zl_c465 : zl 465 = some (.inl (0, 8, 0, 0)) := rfl
theorem zl_c466 : zl 466 = some (.inl (1, 8, 0, 0)) := rfl
theorem zl_c467 : zl 467 = some (.inr (7, [none, none, none, none, none, none, none, some none, some (some 468)])) := rfl
theorem zl_c468 : zl 468 = some (.inr (2, [some (some 469), some (some 470), some (some 471), some (some 472)])) := rfl
theorem zl_c469 : zl 469 = some (.inl (0, 8, 0, 0)) := rfl
theorem zl_c470 : zl 470 = some (.inl (0, 8, 0, 0)) := rfl
theorem zl_c471 : zl 471 = some (.inl (0, 8, 0, 0)) := rfl
theorem zl_c472 : zl 472 = some (.inl (1, 8, 0, 0)) := rfl
theorem zl_c473 : zl 473 = some (.inr (7, [none, none, none, none, none, none, none, some none, some (some 474)])) := rfl
theorem zl_c474 : zl 474 = some (.inr (2, [some (some 475), some (some 476), some (some 477), some (some 478)])) := rfl
theorem zl_c475 : zl 475 = some (.inl (0, 8, 0, 0)) := rfl
theorem zl_c476 : zl 476 = some (.inl (0, 8, 0, 0)) := rfl
theorem zl_c477 : zl 477 = some (.inl (0, 8, 0, 0)) := rfl
theorem zl_c478 : zl 478 = some (.inl (1, 8, 0, 0)) := rfl
theorem zl_c479 : zl 479 = some (.inr (7, [none, none, none, none, none, none, none, some none, some (some 480)])) := rfl
theorem zl_c480 : zl 480 = some (.inr (2, [some (some 481), some (some 482), some (some 483), some (some 484)])) := rfl
theorem zl_c481 : zl 481 = some (.inl (0, 8, 0, 0)) := rfl
theorem zl_c482 : zl 482 = some (.inl (0, 8, 0, 0)) := rfl
theorem zl_c483 : zl 483 = some (.inl (0, 8, 0, 0)) := rfl
theorem zl_c484 : zl 484 = some (.inl (1, 8, 0, 0)) := rfl
theorem zl_c485 : zl 485 = some (.inr (7, [none, none, none, none, none, none, none, some none, some (some 486)])) := rfl
theorem zl_c486 : zl 486 = some (.inr (2, [some (some 487), some (some 488), some (some 489), some (some 490)])) := rfl
theorem zl_c487 : zl 487 = some (.inl (0, 8, 0, 0)) := rfl
theorem zl_c488 : zl 488 = some (.inl (0, 8, 0, 0)) := rfl
theorem zl_c489 : zl 489 = some (.inl (0, 8, 0, 0)) := rfl
theorem zl_c490 : zl 490 = some (.inl (1, 8, 0, 0)) := rfl
theorem zl_c491 : zl 491 = some (.inr (7, [none, none, none, none, none, none, none, some none, some (some 492)])) := rfl
theorem zl_c492 : zl 492 = some (.inr (2, [some (some 493), some (some 494), some (some 495), some (some 496)])) := rfl
theorem zl_c493 : zl 493 = some (.inl (0, 8, 0, 0)) := rfl
theorem zl_c494 : zl 494 = some (.inl (0, 8, 0, 0)) := rfl
theorem zl_c495 : zl 495 = some (.inl (0, 8, 0, 0)) := rfl
theorem zl_c496 : zl 496 = some (.inl (1, 8, 0, 0)) := rfl
theorem zl_c497 : zl 497 = some (.inr (7, [none, none, none, none, none, none, none, some none, some (some 498)])) := rfl
theorem zl_c498 : zl 498 = some (.inr (2, [some (some 499), some (some 500), some (some 501), some (some 502)])) := rfl
theorem zl_c499 : zl 499 = some (.inl (0, 8, 0, 0)) := rfl
theorem zl_c500 : zl 500 = some (.inl (0, 8, 0, 0)) := rfl
theorem zl_c501 : zl 501 = some (.inl (0, 8, 0, 0)) := rfl
theorem zl_c502 : zl 502 = some (.inl (1, 8, 0, 0)) := rfl
theorem zl_c503 : zl 503 = some (.inr (7, [none, none, none, none, none, none, none, some none, some (some 504)])) := rfl
theorem zl_c504 : zl 504 = some (.inr (2, [some (some 505), some (some 506), some (some 507), some (some 508)])) := rfl
theorem zl_c505 : zl 505 = some (.inl (0, 8, 0, 0)) := rfl
theorem zl_c506 : zl 506 = some (.inl (0, 8, 0, 0)) := rfl
theorem zl_c507 : zl 507 = some (.inl (0, 8, 0, 0)) := rfl
theorem zl_c508 : zl 508 = some (.inl (1, 8, 0, 0)) := rfl
theorem zl_c509 : zl 509 = some (.inr (7, [none, none, none, none, none, none, none, some none, some (some 510)])) := rfl
theorem zl_c510 : zl 510 = some (.inr (2, [some (some 511), some (some 512), some (some 513), some (some 514)])) := rfl
theorem zl_c511 : zl 511 = some (.inl (0, 8, 0, 0)) := rfl
theorem zl_c512 : zl 512 = some (.inl (0, 8, 0, 0)) := rfl
theorem zl_c513 : zl 513 = some (.inl (0, 8, 0, 0)) := rfl
theorem zl_c514 : zl 514 = some (.inl (1, 8, 0, 0)) := rfl
theorem zl_c515 : zl 515 = some (.inr (7, [none, none, none, none, none, none, none, some none, some (some 516)])) := rfl
theorem zl_c516 : zl 516 = some (.inr (2, [some (some 517), some (some 518), some (some 519), some (some 520)])) := rfl
theorem zl_c517 : zl 517 = some (.inl (0, 8, 0, 0)) := rfl
theorem zl_c518 : zl 518 = some (.inl (0, 8, 0, 0)) := rfl
theorem zl_c519 : zl 519 = some (.inl (0, 8, 0, 0)) := rfl
theorem zl_c520 : zl 520 = some (.inl (1, 8, 0, 0)) := rfl
theorem zl_c521 : zl 521 = some (.inr (7, [none, none, none, none, none, none, none, some none, some (some 522)])) := rfl
theorem zl_c522 : zl 522 = some (.inr (2, [some (some 523), some (some 524), some (some 525), some (some 526)])) := rfl
theorem zl_c523 : zl 523 = some (.inl (0, 8, 0, 0)) := rfl
theorem zl_c524 : zl 524 = some (.inl (0, 8, 0, 0)) := rfl
theorem zl_c525 : zl 525 = some (.inl (0, 8, 0, 0)) := rfl
theorem zl_c526 : zl 526 = some (.inl (1, 8, 0, 0)) := rfl
theorem zl_c527 : zl 527 = some (.inr (7, [none, none, none, none, none, none, none, some none, some (some 528)])) := rfl
theorem zl_c528 : zl 528 = some (.inr (2, [some (some 529), some (some 530), some (some 531), some (some 532)])) := rfl
theorem zl_c529 : zl 529 = some (.inl (0, 8, 0, 0)) := rfl
theorem zl_c530 : zl 530 = some (.inl (0, 8, 0, 0)) := rfl
theorem zl_c531 : zl 531 = some (.inl (0, 8, 0, 0)) := rfl
theorem zl_c532 : zl 532 = some (.inl (1, 8, 0, 0)) := rfl
theorem zl_c533 : zl 533 = some (.inr (7, [none, none, none, none, none, none, none, some none, some (some 534)])) := rfl
theorem zl_c534 : zl 534 = some (.inr (2, [some (some 535), some (some 536), some (some 537), some (some 538)])) := rfl
theorem zl_c535 : zl 535 = some (.inl (0, 8, 0, 0)) := rfl
theorem zl_c536 : zl 536 = some (.inl (0, 8, 0, 0)) := rfl
theorem zl_c537 : zl 537 = some (.inl (0, 8, 0, 0)) := rfl
theorem zl_c538 : zl 538 = some (.inl (1, 8, 0, 0)) := rfl
theorem zl_c539 : zl 539 = some (.inr (8, [none, none, none, some (some 540), some (some 541)])) := rfl
theorem zl_c540 : zl 540 = some (.inl (0, 3, 0, 0)) := rfl
theorem zl_c541 : zl 541 = some (.inl (1, 3, 0, 0)) := rfl
theorem zl_c542 : zl 542 = some (.inr (5, [none, some (some 543)])) := rfl
theorem zl_c543 : zl 543 = some (.inl (1, 3, 0, 0)) := rfl
theorem zl_c544 : zl 544 = some (.inr (5, [none, some (some 545)])) := rfl
theorem zl_c545 : zl 545 = some (.inl (1, 3, 0, 0)) := rfl
theorem zl_c546 : zl 546 = some (.inr (9, [none, some (some 547), some (some 548), some (some 549), some (some 550), none, some (some 551), some (some 552), some (some 553), some (some 554), some (some 555), some (some 556), some (some 557), some (some 558), some (some 559), some (some 560), some (some 561), some (some 562), some (some 563), some (some 564), some (some 565), some (some 566), some (some 567), some (some 568), some (some 569), none, some (some 570), some (some 571)])) := rfl
theorem zl_c547 : zl 547 = some (.inl (0, 7, 0, 0)) := rfl
theorem zl_c548 : zl 548 = some (.inl (3, 7, 0, 0)) := rfl
theorem zl_c549 : zl 549 = some (.inl (3, 7, 0, 0)) := rfl
theorem zl_c550 : zl 550 = some (.inl (0, 616, 0, 0)) := rfl
theorem zl_c551 : zl 551 = some (.inl (0, 420, 0, 0)) := rfl
theorem zl_c552 : zl 552 = some (.inl (0, 5280, 0, 0)) := rfl
theorem zl_c553 : zl 553 = some (.inl (0, 2, 0, 0)) := rfl
theorem zl_c554 : zl 554 = some (.inl (0, 2, 0, 0)) := rfl
theorem zl_c555 : zl 555 = some (.inl (0, 2, 0, 0)) := rfl
theorem zl_c556 : zl 556 = some (.inl (0, 1232, 0, 0)) := rfl
theorem zl_c557 : zl 557 = some (.inl (0, 48, 0, 0)) := rfl
theorem zl_c558 : zl 558 = some (.inl (0, 2, 0, 0)) := rfl
theorem zl_c559 : zl 559 = some (.inl (0, 16, 0, 0)) := rfl
theorem zl_c560 : zl 560 = some (.inl (0, 16, 0, 0)) := rfl
theorem zl_c561 : zl 561 = some (.inl (0, 16, 0, 0)) := rfl
theorem zl_c562 : zl 562 = some (.inl (0, 16, 0, 0)) := rfl
theorem zl_c563 : zl 563 = some (.inl (0, 384, 0, 0)) := rfl
theorem zl_c564 : zl 564 = some (.inl (0, 510, 0, 0)) := rfl
theorem zl_c565 : zl 565 = some (.inl (0, 256, 0, 0)) := rfl
theorem zl_c566 : zl 566 = some (.inl (0, 3, 0, 0)) := rfl
theorem zl_c567 : zl 567 = some (.inl (0, 24, 0, 0)) := rfl
theorem zl_c568 : zl 568 = some (.inl (0, 3, 0, 0)) := rfl
theorem zl_c569 : zl 569 = some (.inl (0, 24, 0, 0)) := rfl
theorem zl_c570 : zl 570 = some (.inl (0, 7, 0, 0)) := rfl
theorem zl_c571 : zl 571 = some (.inl (0, 88, 0, 0)) := rfl
theorem zl_c572 : zl 572 = some (.inl (1, 1, 0, 0)) := rfl
theorem zl_st : ∀ s, s < 7 → zl_St (2 + 6 * s) := by
  intro i hi
  match i, hi with
  | 0, _ => exact zl_c2
  | 1, _ => exact zl_c8
  | 2, _ => exact zl_c14
  | 3, _ => exact zl_c20
  | 4, _ => exact zl_c26
  | 5, _ => exact zl_c32
  | 6, _ => exact zl_c38
  | k + 7, h => omega
theorem zl_stS : ∀ s, s < 7 → zl_Sh (2 + 6 * s + 1) := by
  intro i hi
  match i, hi with
  | 0, _ => exact ⟨zl_c3, zl_c4, zl_c5, zl_c6, zl_c7⟩
  | 1, _ => exact ⟨zl_c9, zl_c10, zl_c11, zl_c12, zl_c13⟩
  | 2, _ => exact ⟨zl_c15, zl_c16, zl_c17, zl_c18, zl_c19⟩
  | 3, _ => exact ⟨zl_c21, zl_c22, zl_c23, zl_c24, zl_c25⟩
  | 4, _ => exact ⟨zl_c27, zl_c28, zl_c29, zl_c30, zl_c31⟩
  | 5, _ => exact ⟨zl_c33, zl_c34, zl_c35, zl_c36, zl_c37⟩
  | 6, _ => exact ⟨zl_c39, zl_c40, zl_c41, zl_c42, zl_c43⟩
  | k + 7, h => omega
theorem zl_le : ∀ s, s < 61 → zl_Le (173 + 6 * s) := by
  intro i hi
  match i, hi with
  | 0, _ => exact ⟨zl_c173, ⟨zl_c174, zl_c175, zl_c176, zl_c177, zl_c178⟩⟩
  | 1, _ => exact ⟨zl_c179, ⟨zl_c180, zl_c181, zl_c182, zl_c183, zl_c184⟩⟩
  | 2, _ => exact ⟨zl_c185, ⟨zl_c186, zl_c187, zl_c188, zl_c189, zl_c190⟩⟩
  | 3, _ => exact ⟨zl_c191, ⟨zl_c192, zl_c193, zl_c194, zl_c195, zl_c196⟩⟩
  | 4, _ => exact ⟨zl_c197, ⟨zl_c198, zl_c199, zl_c200, zl_c201, zl_c202⟩⟩
  | 5, _ => exact ⟨zl_c203, ⟨zl_c204, zl_c205, zl_c206, zl_c207, zl_c208⟩⟩
  | 6, _ => exact ⟨zl_c209, ⟨zl_c210, zl_c211, zl_c212, zl_c213, zl_c214⟩⟩
  | 7, _ => exact ⟨zl_c215, ⟨zl_c216, zl_c217, zl_c218, zl_c219, zl_c220⟩⟩
  | 8, _ => exact ⟨zl_c221, ⟨zl_c222, zl_c223, zl_c224, zl_c225, zl_c226⟩⟩
  | 9, _ => exact ⟨zl_c227, ⟨zl_c228, zl_c229, zl_c230, zl_c231, zl_c232⟩⟩
  | 10, _ => exact ⟨zl_c233, ⟨zl_c234, zl_c235, zl_c236, zl_c237, zl_c238⟩⟩
  | 11, _ => exact ⟨zl_c239, ⟨zl_c240, zl_c241, zl_c242, zl_c243, zl_c244⟩⟩
  | 12, _ => exact ⟨zl_c245, ⟨zl_c246, zl_c247, zl_c248, zl_c249, zl_c250⟩⟩
  | 13, _ => exact ⟨zl_c251, ⟨zl_c252, zl_c253, zl_c254, zl_c255, zl_c256⟩⟩
  | 14, _ => exact ⟨zl_c257, ⟨zl_c258, zl_c259, zl_c260, zl_c261, zl_c262⟩⟩
  | 15, _ => exact ⟨zl_c263, ⟨zl_c264, zl_c265, zl_c266, zl_c267, zl_c268⟩⟩
  | 16, _ => exact ⟨zl_c269, ⟨zl_c270, zl_c271, zl_c272, zl_c273, zl_c274⟩⟩
  | 17, _ => exact ⟨zl_c275, ⟨zl_c276, zl_c277, zl_c278, zl_c279, zl_c280⟩⟩
  | 18, _ => exact ⟨zl_c281, ⟨zl_c282, zl_c283, zl_c284, zl_c285, zl_c286⟩⟩
  | 19, _ => exact ⟨zl_c287, ⟨zl_c288, zl_c289, zl_c290, zl_c291, zl_c292⟩⟩
  | 20, _ => exact ⟨zl_c293, ⟨zl_c294, zl_c295, zl_c296, zl_c297, zl_c298⟩⟩
  | 21, _ => exact ⟨zl_c299, ⟨zl_c300, zl_c301, zl_c302, zl_c303, zl_c304⟩⟩
  | 22, _ => exact ⟨zl_c305, ⟨zl_c306, zl_c307, zl_c308, zl_c309, zl_c310⟩⟩
  | 23, _ => exact ⟨zl_c311, ⟨zl_c312, zl_c313, zl_c314, zl_c315, zl_c316⟩⟩
  | 24, _ => exact ⟨zl_c317, ⟨zl_c318, zl_c319, zl_c320, zl_c321, zl_c322⟩⟩
  | 25, _ => exact ⟨zl_c323, ⟨zl_c324, zl_c325, zl_c326, zl_c327, zl_c328⟩⟩
  | 26, _ => exact ⟨zl_c329, ⟨zl_c330, zl_c331, zl_c332, zl_c333, zl_c334⟩⟩
  | 27, _ => exact ⟨zl_c335, ⟨zl_c336, zl_c337, zl_c338, zl_c339, zl_c340⟩⟩
  | 28, _ => exact ⟨zl_c341, ⟨zl_c342, zl_c343, zl_c344, zl_c345, zl_c346⟩⟩
  | 29, _ => exact ⟨zl_c347, ⟨zl_c348, zl_c349, zl_c350, zl_c351, zl_c352⟩⟩
  | 30, _ => exact ⟨zl_c353, ⟨zl_c354, zl_c355, zl_c356, zl_c357, zl_c358⟩⟩
  | 31, _ => exact ⟨zl_c359, ⟨zl_c360, zl_c361, zl_c362, zl_c363, zl_c364⟩⟩
  | 32, _ => exact ⟨zl_c365, ⟨zl_c366, zl_c367, zl_c368, zl_c369, zl_c370⟩⟩
  | 33, _ => exact ⟨zl_c371, ⟨zl_c372, zl_c373, zl_c374, zl_c375, zl_c376⟩⟩
  | 34, _ => exact ⟨zl_c377, ⟨zl_c378, zl_c379, zl_c380, zl_c381, zl_c382⟩⟩
  | 35, _ => exact ⟨zl_c383, ⟨zl_c384, zl_c385, zl_c386, zl_c387, zl_c388⟩⟩
  | 36, _ => exact ⟨zl_c389, ⟨zl_c390, zl_c391, zl_c392, zl_c393, zl_c394⟩⟩
  | 37, _ => exact ⟨zl_c395, ⟨zl_c396, zl_c397, zl_c398, zl_c399, zl_c400⟩⟩
  | 38, _ => exact ⟨zl_c401, ⟨zl_c402, zl_c403, zl_c404, zl_c405, zl_c406⟩⟩
  | 39, _ => exact ⟨zl_c407, ⟨zl_c408, zl_c409, zl_c410, zl_c411, zl_c412⟩⟩
  | 40, _ => exact ⟨zl_c413, ⟨zl_c414, zl_c415, zl_c416, zl_c417, zl_c418⟩⟩
  | 41, _ => exact ⟨zl_c419, ⟨zl_c420, zl_c421, zl_c422, zl_c423, zl_c424⟩⟩
  | 42, _ => exact ⟨zl_c425, ⟨zl_c426, zl_c427, zl_c428, zl_c429, zl_c430⟩⟩
  | 43, _ => exact ⟨zl_c431, ⟨zl_c432, zl_c433, zl_c434, zl_c435, zl_c436⟩⟩
  | 44, _ => exact ⟨zl_c437, ⟨zl_c438, zl_c439, zl_c440, zl_c441, zl_c442⟩⟩
  | 45, _ => exact ⟨zl_c443, ⟨zl_c444, zl_c445, zl_c446, zl_c447, zl_c448⟩⟩
  | 46, _ => exact ⟨zl_c449, ⟨zl_c450, zl_c451, zl_c452, zl_c453, zl_c454⟩⟩
  | 47, _ => exact ⟨zl_c455, ⟨zl_c456, zl_c457, zl_c458, zl_c459, zl_c460⟩⟩
  | 48, _ => exact ⟨zl_c461, ⟨zl_c462, zl_c463, zl_c464, zl_c465, zl_c466⟩⟩
  | 49, _ => exact ⟨zl_c467, ⟨zl_c468, zl_c469, zl_c470, zl_c471, zl_c472⟩⟩
  | 50, _ => exact ⟨zl_c473, ⟨zl_c474, zl_c475, zl_c476, zl_c477, zl_c478⟩⟩
  | 51, _ => exact ⟨zl_c479, ⟨zl_c480, zl_c481, zl_c482, zl_c483, zl_c484⟩⟩
  | 52, _ => exact ⟨zl_c485, ⟨zl_c486, zl_c487, zl_c488, zl_c489, zl_c490⟩⟩
  | 53, _ => exact ⟨zl_c491, ⟨zl_c492, zl_c493, zl_c494, zl_c495, zl_c496⟩⟩
  | 54, _ => exact ⟨zl_c497, ⟨zl_c498, zl_c499, zl_c500, zl_c501, zl_c502⟩⟩
  | 55, _ => exact ⟨zl_c503, ⟨zl_c504, zl_c505, zl_c506, zl_c507, zl_c508⟩⟩
  | 56, _ => exact ⟨zl_c509, ⟨zl_c510, zl_c511, zl_c512, zl_c513, zl_c514⟩⟩
  | 57, _ => exact ⟨zl_c515, ⟨zl_c516, zl_c517, zl_c518, zl_c519, zl_c520⟩⟩
  | 58, _ => exact ⟨zl_c521, ⟨zl_c522, zl_c523, zl_c524, zl_c525, zl_c526⟩⟩
  | 59, _ => exact ⟨zl_c527, ⟨zl_c528, zl_c529, zl_c530, zl_c531, zl_c532⟩⟩
  | 60, _ => exact ⟨zl_c533, ⟨zl_c534, zl_c535, zl_c536, zl_c537, zl_c538⟩⟩
  | k + 61, h => omega
theorem zl_prS0 : ∀ i, i < 7 → zl_Sh (45 + 63 * 0 + 4 + 5 * i) := by
  intro i hi
  match i, hi with
  | 0, _ => exact ⟨zl_c49, zl_c50, zl_c51, zl_c52, zl_c53⟩
  | 1, _ => exact ⟨zl_c54, zl_c55, zl_c56, zl_c57, zl_c58⟩
  | 2, _ => exact ⟨zl_c59, zl_c60, zl_c61, zl_c62, zl_c63⟩
  | 3, _ => exact ⟨zl_c64, zl_c65, zl_c66, zl_c67, zl_c68⟩
  | 4, _ => exact ⟨zl_c69, zl_c70, zl_c71, zl_c72, zl_c73⟩
  | 5, _ => exact ⟨zl_c74, zl_c75, zl_c76, zl_c77, zl_c78⟩
  | 6, _ => exact ⟨zl_c79, zl_c80, zl_c81, zl_c82, zl_c83⟩
  | k + 7, h => omega
theorem zl_prP0 : ∀ i, i < 8 → zl_Sp (45 + 63 * 0 + 39 + 3 * i) := by
  intro i hi
  match i, hi with
  | 0, _ => exact ⟨zl_c84, ⟨zl_c85, zl_c86⟩⟩
  | 1, _ => exact ⟨zl_c87, ⟨zl_c88, zl_c89⟩⟩
  | 2, _ => exact ⟨zl_c90, ⟨zl_c91, zl_c92⟩⟩
  | 3, _ => exact ⟨zl_c93, ⟨zl_c94, zl_c95⟩⟩
  | 4, _ => exact ⟨zl_c96, ⟨zl_c97, zl_c98⟩⟩
  | 5, _ => exact ⟨zl_c99, ⟨zl_c100, zl_c101⟩⟩
  | 6, _ => exact ⟨zl_c102, ⟨zl_c103, zl_c104⟩⟩
  | 7, _ => exact ⟨zl_c105, ⟨zl_c106, zl_c107⟩⟩
  | k + 8, h => omega
theorem zl_prS1 : ∀ i, i < 7 → zl_Sh (45 + 63 * 1 + 4 + 5 * i) := by
  intro i hi
  match i, hi with
  | 0, _ => exact ⟨zl_c112, zl_c113, zl_c114, zl_c115, zl_c116⟩
  | 1, _ => exact ⟨zl_c117, zl_c118, zl_c119, zl_c120, zl_c121⟩
  | 2, _ => exact ⟨zl_c122, zl_c123, zl_c124, zl_c125, zl_c126⟩
  | 3, _ => exact ⟨zl_c127, zl_c128, zl_c129, zl_c130, zl_c131⟩
  | 4, _ => exact ⟨zl_c132, zl_c133, zl_c134, zl_c135, zl_c136⟩
  | 5, _ => exact ⟨zl_c137, zl_c138, zl_c139, zl_c140, zl_c141⟩
  | 6, _ => exact ⟨zl_c142, zl_c143, zl_c144, zl_c145, zl_c146⟩
  | k + 7, h => omega
theorem zl_prP1 : ∀ i, i < 8 → zl_Sp (45 + 63 * 1 + 39 + 3 * i) := by
  intro i hi
  match i, hi with
  | 0, _ => exact ⟨zl_c147, ⟨zl_c148, zl_c149⟩⟩
  | 1, _ => exact ⟨zl_c150, ⟨zl_c151, zl_c152⟩⟩
  | 2, _ => exact ⟨zl_c153, ⟨zl_c154, zl_c155⟩⟩
  | 3, _ => exact ⟨zl_c156, ⟨zl_c157, zl_c158⟩⟩
  | 4, _ => exact ⟨zl_c159, ⟨zl_c160, zl_c161⟩⟩
  | 5, _ => exact ⟨zl_c162, ⟨zl_c163, zl_c164⟩⟩
  | 6, _ => exact ⟨zl_c165, ⟨zl_c166, zl_c167⟩⟩
  | 7, _ => exact ⟨zl_c168, ⟨zl_c169, zl_c170⟩⟩
  | k + 8, h => omega
theorem zl_pr : ∀ p, p < 2 → zl_Pr (45 + 63 * p) := by
  intro i hi
  match i, hi with
  | 0, _ => exact ⟨zl_c45, zl_c46, zl_c47, zl_c48, zl_prS0, zl_prP0⟩
  | 1, _ => exact ⟨zl_c108, zl_c109, zl_c110, zl_c111, zl_prS1, zl_prP1⟩
  | k + 2, h => omega
theorem zl_rb : zl_Re 542 := ⟨zl_c542, zl_c543⟩
theorem zl_lr : zl_Re 544 := ⟨zl_c544, zl_c545⟩
def zx_po (r : Option Value) (h : zx_H) (n : Nat) : Option Value → zx_H → Nat → Prop := fun q h' n' => q = r ∧ h' = h ∧ n' = n
def zx_rm (d : Nat) : Room := { frames := d, cells := 0, slots := 0, locals := 36 * d }
/-- a contract at the level of the memory -/
def zK (l : Launch) (D : va_G) (ar : Nat → ClassId) (b : Nat) (Z : State → Prop) (y : zx_Y) (d : Nat) (av : List Value) (M : zm_M) (n : Nat) (r : Option Value) (M' : zm_M) : Prop := zM (zn_G l D ar b Z) y (zx_rm d) av (zm_h b ar zl M) n (zx_po r (zm_h b ar zl M') n)
abbrev zk_X (l : Launch) (D : va_G) (ar : Nat → ClassId) (b : Nat) (Z : State → Prop) (y : zx_Y) (d : Nat) (rv : Option Value) (M' : zm_M) (n pc : Nat) (L : zx_L) (st : List Value) (M : zm_M) : Prop := zX (zn_G l D ar b Z) y (zx_rm d) (zx_F (zn_G l D ar b Z) 0 0 (zx_po rv (zm_h b ar zl M') n)) pc L st (zm_h b ar zl M) n 0 0
section ZKR
variable {l : Launch} {D : va_G} {ar : Nat → ClassId} {b : Nat} {Z : State → Prop} {y y1 : zx_Y} {d d1 : Nat} {R : Room} {F : List Frame → Array Value → State → State → Prop} {pc pc2 : Nat} {L : zx_L} {st st0 av rest : List Value} {M M2 : zm_M} {n k j : Nat} {r N s0 d0 ix np : Nat}
theorem zk_entry {rv : Option Value} (hh : y.2.2.2.2 = []) (hy : plainName y.1.cls = true) (hlen : (lg_sl av).length ≤ y.2.2.1) (h1 : L.length = y.2.2.1) (h2 : zx_ps L = lv_args 0 av) (kk : zX (zn_G l D ar b Z) y (zx_rm d) (zx_F (zn_G l D ar b Z) 0 0 (zx_po rv (zm_h b ar zl M2) n)) 0 L [] (zm_h b ar zl M) n 0 0) : zK l D ar b Z y d av M n rv M2 := zx_entry hh hy hlen h1 h2 kk
theorem zk_1 (i : Nat) : nI i + Int32.ofInt 1 = nI (i + 1) := by rw [nI_succ]; rfl
theorem zk_iinc {G : zx_G} {h : zx_H} {i1 i : Nat} (dd : decode y.2.1 pc = .ok (.iinc i1 1, 3)) (e0 : pc + 3 = pc2) (hv : L[i1]? = some (some (.int (nI i)))) (hn : i1 < y.2.2.1) (kk : zX G y R F pc2 (zx_s1 L i1 (.int (nI (i + 1)))) st h n k j) : zX G y R F pc L st h n k j := zx_iinc dd e0 hv (by rw [nI_succ]; rfl) hn kk
theorem zk_iald {i : Int32} {q : Nat} (dd : decode y.2.1 pc = .ok (.iaload, 1)) (e0 : pc + 1 = pc2) (hl : zl r = some (.inl (0, N, s0, d0))) (hq : i = nI q) (hlt : q < N) (hN : N < 2 ^ 31) (kk : zX (zn_G l D ar b Z) y R F pc2 L (.int (zm_I M r q) :: st) (zm_h b ar zl M) n k j) : zX (zn_G l D ar b Z) y R F pc L (.int i :: .ref (b + r) :: st) (zm_h b ar zl M) n k j := by
  subst hq
  exact zm_iald dd e0 hl rfl (vp_in_nI hlt hN) (by rw [nI_clamp (Nat.lt_trans hlt hN)]; exact kk)
theorem zk_bald {i : Int32} {q : Nat} (dd : decode y.2.1 pc = .ok (.baload, 1)) (e0 : pc + 1 = pc2) (hl : zl r = some (.inl (2, N, s0, d0))) (hq : i = nI q) (hlt : q < N) (hN : N < 2 ^ 31) (kk : zX (zn_G l D ar b Z) y R F pc2 L (.int (zm_I M r q) :: st) (zm_h b ar zl M) n k j) : zX (zn_G l D ar b Z) y R F pc L (.int i :: .ref (b + r) :: st) (zm_h b ar zl M) n k j := by
  subst hq
  exact zm_bald dd e0 hl rfl (vp_in_nI hlt hN) (by rw [nI_clamp (Nat.lt_trans hlt hN)]; exact kk)
theorem zk_zald {i : Int32} {q : Nat} (dd : decode y.2.1 pc = .ok (.baload, 1)) (e0 : pc + 1 = pc2) (hl : zl r = some (.inl (3, N, s0, d0))) (hq : i = nI q) (hlt : q < N) (hN : N < 2 ^ 31) (kk : zX (zn_G l D ar b Z) y R F pc2 L (.int (zm_I M r q) :: st) (zm_h b ar zl M) n k j) : zX (zn_G l D ar b Z) y R F pc L (.int i :: .ref (b + r) :: st) (zm_h b ar zl M) n k j := by
  subst hq
  exact zm_zald dd e0 hl rfl (vp_in_nI hlt hN) (by rw [nI_clamp (Nat.lt_trans hlt hN)]; exact kk)
theorem zk_lald {i : Int32} {q : Nat} (dd : decode y.2.1 pc = .ok (.laload, 1)) (e0 : pc + 1 = pc2) (hl : zl r = some (.inl (1, N, s0, d0))) (hq : i = nI q) (hlt : q < N) (hN : N < 2 ^ 31) (kk : zX (zn_G l D ar b Z) y R F pc2 L (.long (zm_J M r q) :: st) (zm_h b ar zl M) n k j) : zX (zn_G l D ar b Z) y R F pc L (.int i :: .ref (b + r) :: st) (zm_h b ar zl M) n k j := by
  subst hq
  exact zm_lald dd e0 hl rfl (vp_in_nI hlt hN) (by rw [nI_clamp (Nat.lt_trans hlt hN)]; exact kk)
theorem zk_aaldC {i : Int32} {q t : Nat} {C0 : String} (dd : decode y.2.1 pc = .ok (.aaload, 1)) (e0 : pc + 1 = pc2) (h4 : 4 ≤ t) (hl : zl r = some (.inl (t, N, s0, d0))) (hd0 : ¬ d0 = 0) (ht : (zn_at ar)[t]? = some (ar t, .object C0)) (hq : i = nI q) (hlt : q < N) (hN : N < 2 ^ 31) (kk : zX (zn_G l D ar b Z) y R F pc2 L (.ref (b + (s0 + d0 * q)) :: st) (zm_h b ar zl M) n k j) : zX (zn_G l D ar b Z) y R F pc L (.int i :: .ref (b + r) :: st) (zm_h b ar zl M) n k j := by
  subst hq
  exact zm_aald dd e0 h4 hl ht (vp_in_nI hlt hN) (by rw [nI_clamp (Nat.lt_trans hlt hN), if_neg hd0]) kk
theorem zk_aaldP {i : Int32} {q t : Nat} {C0 : String} (dd : decode y.2.1 pc = .ok (.aaload, 1)) (e0 : pc + 1 = pc2) (h4 : 4 ≤ t) (hl : zl r = some (.inl (t, N, s0, 0))) (ht : (zn_at ar)[t]? = some (ar t, .object C0)) (hq : i = nI q) (hlt : q < N) (hN : N < 2 ^ 31) (kk : zX (zn_G l D ar b Z) y R F pc2 L (.ref (b + zm_P M r q) :: st) (zm_h b ar zl M) n k j) : zX (zn_G l D ar b Z) y R F pc L (.int i :: .ref (b + r) :: st) (zm_h b ar zl M) n k j := by
  subst hq
  exact zm_aald dd e0 h4 hl ht (vp_in_nI hlt hN) (by rw [nI_clamp (Nat.lt_trans hlt hN), if_pos rfl]) kk
theorem zk_aald {i : Int32} {q t x : Nat} {C0 : String} (dd : decode y.2.1 pc = .ok (.aaload, 1)) (e0 : pc + 1 = pc2) (h4 : 4 ≤ t) (hl : zl r = some (.inl (t, N, s0, d0))) (ht : (zn_at ar)[t]? = some (ar t, .object C0)) (hq : i = nI q) (hlt : q < N) (hN : N < 2 ^ 31) (hx : (if d0 = 0 then zm_P M r q else s0 + d0 * q) = x) (kk : zX (zn_G l D ar b Z) y R F pc2 L (.ref (b + x) :: st) (zm_h b ar zl M) n k j) : zX (zn_G l D ar b Z) y R F pc L (.int i :: .ref (b + r) :: st) (zm_h b ar zl M) n k j := by
  subst hq
  exact zm_aald dd e0 h4 hl ht (vp_in_nI hlt hN) (by rw [nI_clamp (Nat.lt_trans hlt hN)]; exact hx) kk
theorem zk_aast {i : Int32} {q t rv ci : Nat} {r0 : vw_C} {fk : List (Option (Option Nat))} (dd : decode y.2.1 pc = .ok (.aastore, 1)) (e0 : pc + 1 = pc2) (h4 : 4 ≤ t) (hl : zl r = some (.inl (t, N, s0, 0))) (ht : (zn_at ar)[t]? = some (ar t, .object r0.1)) (hv : zl rv = some (.inr (ci, fk))) (hc : zn_cl[ci]? = some r0) (hq : i = nI q) (hlt : q < N) (hN : N < 2 ^ 31) (kk : zX (zn_G l D ar b Z) y R F pc2 L st (zm_h b ar zl (zm_wP M r q rv)) n k j) : zX (zn_G l D ar b Z) y R F pc L (.ref (b + rv) :: .int i :: .ref (b + r) :: st) (zm_h b ar zl M) n k j := by
  subst hq
  exact zm_aast dd e0 h4 hl ht hv hc (vp_in_nI hlt hN) (by rw [nI_clamp (Nat.lt_trans hlt hN)]; exact kk)
theorem zk_iast {i : Int32} {q : Nat} {x : Int32} (dd : decode y.2.1 pc = .ok (.iastore, 1)) (e0 : pc + 1 = pc2) (hl : zl r = some (.inl (0, N, s0, d0))) (hq : i = nI q) (hlt : q < N) (hN : N < 2 ^ 31) (kk : zX (zn_G l D ar b Z) y R F pc2 L st (zm_h b ar zl (zm_wI M r q x)) n k j) : zX (zn_G l D ar b Z) y R F pc L (.int x :: .int i :: .ref (b + r) :: st) (zm_h b ar zl M) n k j := by
  subst hq
  exact zm_iast dd e0 hl rfl (vp_in_nI hlt hN) (by rw [nI_clamp (Nat.lt_trans hlt hN)]; exact kk)
theorem zk_bast {i : Int32} {q : Nat} {x : Int32} (dd : decode y.2.1 pc = .ok (.bastore, 1)) (e0 : pc + 1 = pc2) (hl : zl r = some (.inl (2, N, s0, d0))) (hq : i = nI q) (hlt : q < N) (hN : N < 2 ^ 31) (kk : zX (zn_G l D ar b Z) y R F pc2 L st (zm_h b ar zl (zm_wI M r q (vp_nar .byte x))) n k j) : zX (zn_G l D ar b Z) y R F pc L (.int x :: .int i :: .ref (b + r) :: st) (zm_h b ar zl M) n k j := by
  subst hq
  exact zm_bast dd e0 hl rfl (vp_in_nI hlt hN) (by rw [nI_clamp (Nat.lt_trans hlt hN)]; exact kk)
theorem zk_zast {i : Int32} {q : Nat} {x : Int32} (dd : decode y.2.1 pc = .ok (.bastore, 1)) (e0 : pc + 1 = pc2) (hl : zl r = some (.inl (3, N, s0, d0))) (hq : i = nI q) (hlt : q < N) (hN : N < 2 ^ 31) (kk : zX (zn_G l D ar b Z) y R F pc2 L st (zm_h b ar zl (zm_wI M r q (vp_nar .boolean x))) n k j) : zX (zn_G l D ar b Z) y R F pc L (.int x :: .int i :: .ref (b + r) :: st) (zm_h b ar zl M) n k j := by
  subst hq
  exact zm_zast dd e0 hl rfl (vp_in_nI hlt hN) (by rw [nI_clamp (Nat.lt_trans hlt hN)]; exact kk)
theorem zk_last {i : Int32} {q : Nat} {x : Int64} (dd : decode y.2.1 pc = .ok (.lastore, 1)) (e0 : pc + 1 = pc2) (hl : zl r = some (.inl (1, N, s0, d0))) (hq : i = nI q) (hlt : q < N) (hN : N < 2 ^ 31) (kk : zX (zn_G l D ar b Z) y R F pc2 L st (zm_h b ar zl (zm_wJ M r q x)) n k j) : zX (zn_G l D ar b Z) y R F pc L (.long x :: .int i :: .ref (b + r) :: st) (zm_h b ar zl M) n k j := by
  subst hq
  exact zm_last dd e0 hl rfl (vp_in_nI hlt hN) (by rw [nI_clamp (Nat.lt_trans hlt hN)]; exact kk)
theorem zk_callS {v : Value} (f : zx_s (zn_G l D ar b Z) y.1.cls ix y1 np) (fs : Cond.static y1.1 ∈ zx_gW (zn_G l D ar b Z)) (hM : zK l D ar b Z y1 d1 (av) M n (some v) M2) (dd : decode y.2.1 pc = .ok (.invokestatic ix, 3)) (e0 : pc + 3 = pc2) (hst : st0 = av.reverse ++ rest) (hnp : av.length = np) (hsum : (rest.map fun v => v.category).sum ≤ 8) (hd : d1 < d) (hm : y1.2.2.1 ≤ 17) (kk : zX (zn_G l D ar b Z) y (zx_rm d) F pc2 L (v :: rest) (zm_h b ar zl M2) n 0 0) : zX (zn_G l D ar b Z) y (zx_rm d) F pc L st0 (zm_h b ar zl M) n 0 0 :=
  zx_callS f fs hM dd e0 hst hnp hsum (by show d1 + 1 ≤ d; omega) (by show 8 + (y1.2.2.1 + 11) + 36 * d1 ≤ 36 * d; omega) (Nat.le_refl 0) (Nat.le_refl 0) (by rintro _ _ _ ⟨rfl, rfl, rfl⟩; exact kk)
theorem zk_callSv (f : zx_s (zn_G l D ar b Z) y.1.cls ix y1 np) (fs : Cond.static y1.1 ∈ zx_gW (zn_G l D ar b Z)) (hM : zK l D ar b Z y1 d1 (av) M n none M2) (dd : decode y.2.1 pc = .ok (.invokestatic ix, 3)) (e0 : pc + 3 = pc2) (hst : st0 = av.reverse ++ rest) (hnp : av.length = np) (hsum : (rest.map fun v => v.category).sum ≤ 8) (hd : d1 < d) (hm : y1.2.2.1 ≤ 17) (kk : zX (zn_G l D ar b Z) y (zx_rm d) F pc2 L rest (zm_h b ar zl M2) n 0 0) : zX (zn_G l D ar b Z) y (zx_rm d) F pc L st0 (zm_h b ar zl M) n 0 0 :=
  zx_callS f fs hM dd e0 hst hnp hsum (by show d1 + 1 ≤ d; omega) (by show 8 + (y1.2.2.1 + 11) + 36 * d1 ≤ 36 * d; omega) (Nat.le_refl 0) (Nat.le_refl 0) (by rintro _ _ _ ⟨rfl, rfl, rfl⟩; exact kk)
theorem zk_callIv (f : zx_s (zn_G l D ar b Z) y.1.cls ix y1 np) {r1 : Nat} (fs : y1.1.name = "<init>" ∧ y1.2.2.2.1 = none ∧ Cond.instanceMethod y1.1 ∈ zx_gW (zn_G l D ar b Z)) (hM : zK l D ar b Z y1 d1 (.ref (b + r1) :: av) M n none M2) (dd : decode y.2.1 pc = .ok (.invokespecial ix, 3)) (e0 : pc + 3 = pc2) (hst : st0 = av.reverse ++ .ref (b + r1) :: rest) (hnp : av.length = np) (hsum : (rest.map fun v => v.category).sum ≤ 8) (hd : d1 < d) (hm : y1.2.2.1 ≤ 17) (kk : zX (zn_G l D ar b Z) y (zx_rm d) F pc2 L rest (zm_h b ar zl M2) n 0 0) : zX (zn_G l D ar b Z) y (zx_rm d) F pc L st0 (zm_h b ar zl M) n 0 0 :=
  zx_callI f fs hM dd e0 hst hnp hsum (by show d1 + 1 ≤ d; omega) (by show 8 + (y1.2.2.1 + 11) + 36 * d1 ≤ 36 * d; omega) (Nat.le_refl 0) (Nat.le_refl 0) (by rintro _ _ _ ⟨rfl, rfl, rfl⟩; exact kk)
theorem zk_callV {v : Value} (f : zx_s (zn_G l D ar b Z) y.1.cls ix y1 np) {r1 ci : Nat} {r0 : vw_C} {fk : List (Option (Option Nat))} (fs : Cond.instanceMethod y1.1 ∈ zx_gW (zn_G l D ar b Z) ∧ Cond.selects y1.1.cls y1.1 y1.1 ∈ zx_gW (zn_G l D ar b Z) ∧ (zx_gC (zn_G l D ar b Z))[ci]? = some r0 ∧ r0.1 = y1.1.cls) (hl : zl r1 = some (.inr (ci, fk))) (hM : zK l D ar b Z y1 d1 (.ref (b + r1) :: av) M n (some v) M2) (dd : decode y.2.1 pc = .ok (.invokevirtual ix, 3)) (e0 : pc + 3 = pc2) (hst : st0 = av.reverse ++ .ref (b + r1) :: rest) (hnp : av.length = np) (hsum : (rest.map fun v => v.category).sum ≤ 8) (hd : d1 < d) (hm : y1.2.2.1 ≤ 17) (kk : zX (zn_G l D ar b Z) y (zx_rm d) F pc2 L (v :: rest) (zm_h b ar zl M2) n 0 0) : zX (zn_G l D ar b Z) y (zx_rm d) F pc L st0 (zm_h b ar zl M) n 0 0 :=
  zx_callV f fs (zm_at hl) hM dd e0 hst hnp hsum (by show d1 + 1 ≤ d; omega) (by show 8 + (y1.2.2.1 + 11) + 36 * d1 ≤ 36 * d; omega) (Nat.le_refl 0) (Nat.le_refl 0) (by rintro _ _ _ ⟨rfl, rfl, rfl⟩; exact kk)
theorem zk_callVv (f : zx_s (zn_G l D ar b Z) y.1.cls ix y1 np) {r1 ci : Nat} {r0 : vw_C} {fk : List (Option (Option Nat))} (fs : Cond.instanceMethod y1.1 ∈ zx_gW (zn_G l D ar b Z) ∧ Cond.selects y1.1.cls y1.1 y1.1 ∈ zx_gW (zn_G l D ar b Z) ∧ (zx_gC (zn_G l D ar b Z))[ci]? = some r0 ∧ r0.1 = y1.1.cls) (hl : zl r1 = some (.inr (ci, fk))) (hM : zK l D ar b Z y1 d1 (.ref (b + r1) :: av) M n none M2) (dd : decode y.2.1 pc = .ok (.invokevirtual ix, 3)) (e0 : pc + 3 = pc2) (hst : st0 = av.reverse ++ .ref (b + r1) :: rest) (hnp : av.length = np) (hsum : (rest.map fun v => v.category).sum ≤ 8) (hd : d1 < d) (hm : y1.2.2.1 ≤ 17) (kk : zX (zn_G l D ar b Z) y (zx_rm d) F pc2 L rest (zm_h b ar zl M2) n 0 0) : zX (zn_G l D ar b Z) y (zx_rm d) F pc L st0 (zm_h b ar zl M) n 0 0 :=
  zx_callV f fs (zm_at hl) hM dd e0 hst hnp hsum (by show d1 + 1 ≤ d; omega) (by show 8 + (y1.2.2.1 + 11) + 36 * d1 ≤ 36 * d; omega) (Nat.le_refl 0) (Nat.le_refl 0) (by rintro _ _ _ ⟨rfl, rfl, rfl⟩; exact kk)
end ZKR
